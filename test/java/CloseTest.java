/** Promises 1 to 8: the close, houses, tales, the pad. */
public final class CloseTest {
    public static void main(String[] args) {
        newObject();
        roads();
        houses();
        tales();
        signs();
        Runs.end();
    }

    private static void newObject() {
        for (int one = 0; one <= 10; one++) {
            for (int other = 0; other <= 10; other++) {
                Runs.run("promise 1", "told " + (1000 + 20 * one + other) + " -> 0");
            }
        }
        for (int each = 0; each <= 9; each++) {
            Runs.run("promise 1", "told " + (100 + 10 * each) + " -> NONE \n told " + (101 + 10 * each) + " -> 5 \n"
                    + "told " + (102 + 10 * each) + " -> 0 \n told " + (10 + each) + " -> " + each + " \n"
                    + "holds " + each + " -> 0");
        }
        Runs.run("promise 1", """
                told 0 -> 0
                told 1 -> 10
                told 2 -> 0
                told 3 -> 0
                told 4 -> 0
                told 5 -> 0
                fault -> NONE
                restore 0 -> STATE
                restore 1 -> STATE
                """);
    }

    private static void roads() {
        Runs.run("promise 2", """
                road 10 0 9 -> 0
                road 0 10 1 -> 9
                told 1010 -> 1
                told 1200 -> 1
                road 10 0 0 -> 1
                told 1010 -> 0
                told 1200 -> 0
                road 9 3 4 -> 0
                road 3 9 4 -> 4
                told 1189 -> 0
                told 1183 -> 4
                told 1069 -> 4
                """);
        Runs.run("promise 2, refused", """
                road 1 2 3 -> 0
                road 11 2 3 -> UNKNOWN
                road 1 11 3 -> UNKNOWN
                road -1 2 3 -> UNKNOWN
                road 1 -1 3 -> UNKNOWN
                road 1 1 3 -> UNKNOWN
                road 10 10 0 -> UNKNOWN
                road LEAST MOST 3 -> UNKNOWN
                # a PLACE that is unknown comes ahead of a number that is not as told
                road 2 2 10 -> UNKNOWN
                road 11 2 -1 -> UNKNOWN
                road 1 2 10 -> OUTSIDE
                road 1 2 -1 -> OUTSIDE
                road 1 2 MOST -> OUTSIDE
                road 1 2 LEAST -> OUTSIDE
                told 1022 -> 3
                """);
    }

    private static void houses() {
        Runs.run("promise 3", """
                house 0 9 1 -> 5
                house 0 0 0 -> 9
                house 0 3 1 -> 0
                told 101 -> 3
                told 102 -> 1
                told 111 -> 5
                told 112 -> 0
                house 9 7 1 -> 5
                told 191 -> 7
                told 192 -> 1
                """);
        Runs.run("promise 3, refused", """
                house 10 5 0 -> UNKNOWN
                house -1 5 0 -> UNKNOWN
                house MOST 5 0 -> UNKNOWN
                house LEAST 10 2 -> UNKNOWN
                house 4 10 0 -> OUTSIDE
                house 4 -1 0 -> OUTSIDE
                house 4 6 2 -> OUTSIDE
                house 4 6 -1 -> OUTSIDE
                house 4 MOST 1 -> OUTSIDE
                told 141 -> 5
                told 142 -> 0
                """);
    }

    private static void tales() {
        Runs.run("promise 4", """
                tell 0 0 -> NONE
                tell 0 9 -> 0
                tell 0 -1 -> 9
                tell 0 -1 -> NONE
                tell 9 4 -> NONE
                told 190 -> 4
                told 100 -> NONE
                """);
        Runs.run("promise 4, refused", """
                tell 3 2 -> NONE
                tell 10 2 -> UNKNOWN
                tell -1 2 -> UNKNOWN
                tell 3 10 -> UNKNOWN
                tell 3 -2 -> UNKNOWN
                tell 3 -6 -> UNKNOWN
                tell 3 MOST -> UNKNOWN
                tell LEAST LEAST -> UNKNOWN
                told 130 -> 2
                """);
        Runs.run("promise 5", """
                fade 0 9 -> 0
                fade 0 3 -> 9
                fade 9 9 -> 9
                fade 9 0 -> 9
                told 10 -> 3
                told 19 -> 0
                fade 10 0 -> UNKNOWN
                fade 0 10 -> UNKNOWN
                fade -1 0 -> UNKNOWN
                fade 0 -1 -> UNKNOWN
                fade MOST LEAST -> UNKNOWN
                told 10 -> 3
                """);
    }

    private static void signs() {
        Runs.run("promise 6", """
                say 33 -> 1
                say 126 -> 2
                say 32 -> OUTSIDE
                say 127 -> OUTSIDE
                say 0 -> OUTSIDE
                say MOST -> OUTSIDE
                say LEAST -> OUTSIDE
                told 0 -> 2
                wipe -> 2
                wipe -> 0
                told 0 -> 0
                """);
        String sixty = ".".repeat(60);
        Runs.run("promise 6, full", "pad " + sixty + """

                say 46 -> FULL
                # what is no sign at all comes ahead of a full PAD
                say 32 -> OUTSIDE
                say 61 -> FULL
                told 0 -> 60
                judge 0 -> NONE
                wipe -> 60
                say 46 -> 1
                """);
        Runs.run("promise 7", """
                pad =55.
                wipe -> 4
                told 0 -> 0
                fault -> NONE
                # what was said ahead of it is gone, too: two digits are still to come
                say 61 -> 1
                fault -> 1
                """);
        faults();
    }

    private static void faults() {
        String[] fine = {"=01", "=99", "A", "J", "k", "*", "~", ".", "=01ABCDEFGHIJk*~.", "=11=22"};
        for (String text : fine) {
            Runs.run("promise 8", "pad " + text + "\n fault -> NONE");
        }
        for (char sign = 33; sign <= 126; sign++) {
            boolean begins = "=ABCDEFGHIJk*~.".indexOf(sign) >= 0;
            int alone = sign == '=' ? 1 : begins ? -6 : 0;
            Runs.run("promise 8", "say " + (int) sign + " -> 1 \n fault -> " + alone);
            boolean digit = sign >= '0' && sign <= '9';
            Runs.run("promise 8", "pad .= \n say " + (int) sign + " -> 3 \n fault -> " + (digit ? 3 : 2));
            int third = digit && sign != '0' ? -6 : 4;
            Runs.run("promise 8", "pad ..=0 \n say " + (int) sign + " -> 5 \n fault -> " + third);
        }
        Runs.run("promise 8, the first one", """
                pad =55K!
                fault -> 3
                pad ==11
                fault -> 1
                pad =1=11
                fault -> 2
                pad *.~x=5
                fault -> 3
                # ACTS that can not be are no FAULT
                pad k*~
                fault -> NONE
                """);
        Runs.run("promise 8, more must come on a full PAD", "pad " + ".".repeat(59) + "=" + "\n fault -> 60");
        Runs.run("promise 8, more must come on a full PAD", "pad " + ".".repeat(58) + "=3" + "\n fault -> 60");
    }
}
