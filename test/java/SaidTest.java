/** Promises 19 to 28: what was said, rows, embers, years, images, what is told. */
public final class SaidTest {
    public static void main(String[] args) {
        sights();
        fits();
        asks();
        rows();
        embers();
        years();
        images();
        told();
        Runs.end();
    }

    private static void sights() {
        Runs.run("promises 19 and 20", """
                seen 0 0 -> 1
                seen 40 9 -> 2
                seen 41 0 -> OUTSIDE
                seen -1 0 -> OUTSIDE
                seen MOST 0 -> OUTSIDE
                seen 0 10 -> UNKNOWN
                seen 0 -1 -> UNKNOWN
                seen 41 10 -> UNKNOWN
                seen LEAST MOST -> UNKNOWN
                told 5 -> 2
                forget -> 2
                forget -> 0
                told 5 -> 0
                fits -1 -> 50
                # the same one again is one more
                seen 3 3 -> 1
                seen 3 3 -> 2
                seen 3 3 -> 3
                seen 3 3 -> 4
                seen 3 3 -> 5
                seen 3 3 -> 6
                seen 3 3 -> 7
                seen 3 3 -> 8
                seen 3 3 -> FULL
                seen 3 10 -> UNKNOWN
                seen 41 3 -> OUTSIDE
                fits -1 -> 5
                forget -> 8
                seen 0 4 -> 1
                fits 0 -> 41
                """);
    }

    private static void fits() {
        Runs.run("promise 21", """
                fits -1 -> 50
                fits 0 -> 1
                fits 4 -> 5
                fits 5 -> 11
                fits 49 -> 95
                fits 50 -> NONE
                fits -2 -> NONE
                fits LEAST -> NONE
                fits MOST -> NONE
                # 0 to 1 to 2 to 0: bed 40 is behind 40, 20, 13, 10, 8 stirs
                fade 0 1 -> 0
                fade 1 2 -> 1
                fade 2 0 -> 2
                seen 40 1 -> 1
                fits -1 -> 5
                fits 0 -> 1
                fits 1 -> 3
                fits 2 -> 4
                fits 3 -> 22
                fits 4 -> 25
                fits 5 -> NONE
                # bed 3 is behind 3, 1, 1, 0, 0: 0 and 1 are not, 0 and 3 are
                seen 3 1 -> 2
                fits -1 -> 1
                fits 0 -> 3
                fits 1 -> NONE
                # how a TALE fades now is what counts
                fade 0 5 -> 1
                fits -1 -> 0
                fits 0 -> NONE
                """);
        Runs.run("promise 21, the PAN is stirred ahead of each s-th bed", """
                fade 0 1 -> 0
                fade 1 2 -> 1
                seen 5 1 -> 1
                # behind 5, 2, 1, 1, 1 stirs (s by 5 cut): 0 with 3, 4, 5; 1 with none
                fits -1 -> 3
                fits 0 -> 3
                fits 1 -> 4
                fits 2 -> 5
                forget -> 1
                seen 4 1 -> 1
                # 4, 2, 1, 1, 0: 0 with 3 and 4, 1 with 5
                fits -1 -> 3
                fits 0 -> 3
                fits 1 -> 4
                fits 2 -> 15
                """);
    }

    private static void asks() {
        Runs.run("promise 22", """
                # nothing fades: each bed leaves five of fifty
                ask 0 -> 0
                ask 1 -> 5
                fade 0 1 -> 0
                fade 1 0 -> 1
                seen 0 0 -> 1
                fits -1 -> 5
                # by s 1 to 5 bed 1 is behind 1 0 0 0 0 stirs, bed 2 behind 2 1 0 0 0, bed 3 behind 3 1 1 0 0
                ask 0 -> 3
                ask 1 -> 3
                ask 2 -> OUTSIDE
                ask -1 -> OUTSIDE
                ask MOST -> OUTSIDE
                seen 0 1 -> 2
                ask 0 -> NONE
                ask 1 -> NONE
                ask 2 -> OUTSIDE
                """);
        Runs.run("promise 22, one bed tells all apart", Runs.chain() + """
                fade 9 0 -> 9
                seen 0 0 -> 1
                # bed 7 is behind 7 3 2 1 1 stirs, bed 8 behind 8 4 2 2 1, bed 9 behind 9 4 3 2 1
                ask 0 -> 9
                ask 1 -> 1
                # a bed that was seen can be the one to ask: all that fit believe there what it was
                seen 9 9 -> 2
                ask 0 -> 0
                ask 1 -> 1
                fits -1 -> 1
                fits 0 -> 1
                """);
        Runs.run("promise 22, the first bed that tells two apart", """
                fade 7 3 -> 7
                fade 3 4 -> 3
                fade 4 3 -> 4
                seen 4 4 -> 1
                seen 0 7 -> 2
                # 7 with 1: behind one stir 3 in bed 1; 7 with 2: still 7 there
                fits -1 -> 2
                fits 0 -> 71
                fits 1 -> 72
                ask 0 -> 1
                ask 1 -> 1
                """);
    }

    private static void rows() {
        Runs.run("promise 23", """
                row 0 0 0 0 0 0 -> 1
                row 0 0 0 0 0 1 -> 1
                row 0 5 5 0 1 0 -> 1
                row 0 5 5 0 2 0 -> 0
                row 0 5 5 0 2 1 -> 1
                row 1 3 9 1 0 0 -> 3
                row 1 3 9 1 0 1 -> 10
                row 1 3 9 0 0 0 -> 7
                row 1 5 9 0 0 1 -> 2
                row 1 4 9 1 2 0 -> 2
                row 1 4 9 1 2 1 -> 5
                # 6 and 2 tenths: both 36, first alone 24, second alone 8, none 32 of 100
                row 2 6 2 2 0 0 -> 9
                row 2 6 2 2 0 1 -> 25
                row 2 6 2 1 0 0 -> 8
                row 2 6 2 1 0 1 -> 25
                row 2 6 2 0 0 0 -> 8
                row 2 6 2 0 0 1 -> 25
                row 2 6 2 1 1 0 -> 17
                row 2 6 2 1 1 1 -> 25
                row 2 6 2 0 1 0 -> 1
                row 2 6 2 0 1 1 -> 1
                row 2 6 2 2 1 0 -> 9
                # in the mean 104 of 100, whatever k
                row 2 6 2 0 2 0 -> 26
                row 2 6 2 2 2 1 -> 25
                row 10 0 10 5 0 0 -> 1
                row 10 0 10 4 0 0 -> 0
                row 10 0 10 4 0 1 -> 1
                row 10 10 0 10 0 0 -> 1
                row 10 0 0 0 0 0 -> 1
                row 10 10 10 0 2 0 -> 10
                row 10 5 5 10 0 1 -> 1024
                row 10 1 1 10 0 1 -> 10000000000
                row 10 1 9 10 1 0 -> 1
                row 10 1 9 10 1 1 -> 10000000000
                """);
        for (String numbers : new String[] {"11 5 5 0 0 0", "-1 5 5 0 0 0", "5 11 5 0 0 0", "5 -1 5 0 0 0", "5 5 11 0 0 0",
            "5 5 -1 0 0 0", "5 5 5 6 0 0", "5 5 5 -1 0 0", "5 5 5 6 2 0", "5 5 5 -1 2 0", "5 5 5 0 3 0", "5 5 5 0 -1 0",
            "5 5 5 0 0 2", "5 5 5 0 0 -1", "0 5 5 1 0 0", "MOST MOST MOST MOST MOST MOST", "LEAST 0 0 LEAST 0 0"}) {
            Runs.run("promise 23, refused", "row " + numbers + " -> GONE");
        }
        Runs.due("GONE", "the constant and the refusal", new PanTales().row(11, 0, 0, 0, 0, 0), PanTales.GONE + PanTales.OUTSIDE);
    }

    private static void embers() {
        Runs.run("promise 24", """
                embers 1 0 -> 0
                embers 1 1 -> NONE
                embers 2 0 -> 0
                embers 2 1 -> NONE
                embers 3 0 -> 0
                embers 4 0 -> 1
                embers 4 1 -> 1
                embers 5 0 -> 0
                embers 5 1 -> NONE
                embers 6 1 -> 1
                embers 7 0 -> 1
                embers 7 1 -> 2
                embers 8 0 -> 0
                embers 10 1 -> 2
                embers 11 1 -> 3
                embers 12 1 -> 1
                embers 13 0 -> 0
                embers 21 1 -> NONE
                embers 26 1 -> 5
                embers 34 0 -> 0
                embers 54 1 -> 2
                embers 55 1 -> NONE
                embers 55 0 -> 0
                embers 60 0 -> 1
                embers 60 1 -> 5
                embers 4 0 -> 1
                embers 0 0 -> OUTSIDE
                embers 61 0 -> OUTSIDE
                embers -1 1 -> OUTSIDE
                embers 5 2 -> OUTSIDE
                embers 5 -1 -> OUTSIDE
                embers MOST 0 -> OUTSIDE
                embers LEAST LEAST -> OUTSIDE
                """);
    }

    private static void years() {
        // the draws of 1: stirred, to J, to C, bed, bed, bed, morning, to E, to F, stirred, filled with 7, bed, bed
        String warm = """
                pad =04
                done -> 1
                fade 0 6 -> 0
                road 10 9 1 -> 0
                road 9 2 2 -> 0
                """;
        Runs.run("promise 25", warm + """
                year 1 3 0 -> 0
                year 1 4 0 -> 1
                year 1 4 1 -> 1
                year 1 4 2 -> 50
                year 1 5 2 -> 51
                year 1 6 2 -> 52
                year 1 13 2 -> 52
                year 1 13 0 -> 1
                # who BELIEVES it already is no more for it, and the TALE is the faded one
                tell 4 6 -> NONE
                year 1 4 0 -> 2
                year 1 4 1 -> 1
                tell 4 0 -> 6
                year 1 4 1 -> 2
                tell 2 0 -> NONE
                year 1 4 0 -> 2
                year 1 4 1 -> 2
                # the PAD is no matter, and nothing is so in fact
                pad =x
                year 1 4 1 -> 2
                told 0 -> 2
                told 1 -> 10
                told 2 -> 40
                told 3 -> 0
                told 4 -> 0
                told 120 -> 0
                told 121 -> 5
                """);
        Runs.run("promise 25, DAMP", warm + """
                house 2 5 1 -> 5
                year 1 6 0 -> 0
                year 1 6 2 -> 50
                """);
        Runs.run("promise 25, what can not be is passed over", warm + """
                # no ROAD to J, one to C: 49 ahead of the first bed there
                road 10 9 0 -> 1
                road 10 2 1 -> 0
                year 1 4 0 -> 1
                year 1 5 2 -> 51
                year 1 6 2 -> 52
                # no way to C: all beds are J's
                road 9 2 0 -> 2
                road 10 2 0 -> 1
                road 10 9 1 -> 0
                house 9 9 0 -> 5
                year 1 6 2 -> 54
                house 9 5 0 -> 9
                year 1 4 1 -> 1
                year 1 5 2 -> 51
                """);
        // the draws of 1199: filled with 7 (90), to C, bed, bed; of 2146: filled with 3 (60), to D, bed, bed
        Runs.run("promise 25, filled", """
                road 10 2 9 -> 0
                road 10 3 9 -> 0
                year 1199 3 0 -> 1
                house 2 8 0 -> 5
                year 1199 3 0 -> 1
                year 1199 4 2 -> 53
                house 2 9 0 -> 8
                year 1199 3 0 -> 0
                year 2146 3 0 -> 1
                year 2146 4 0 -> 1
                year 2146 4 2 -> 54
                house 3 6 0 -> 5
                year 2146 3 0 -> 0
                year 2146 4 2 -> 57
                tell 5 3 -> NONE
                house 3 5 0 -> 6
                year 2146 3 0 -> 2
                year 2146 3 1 -> 1
                # it is filled in the KITCHEN alone
                pad C
                done -> 1
                year 2146 4 0 -> 1
                """);
        Runs.run("promise 25, the least and the most seed and ACTS", """
                year 0 1 2 -> 50
                year 0 99 0 -> 0
                year 9999 1 1 -> 0
                year 9999 99 2 -> 50
                """);
        Runs.run("promise 25, those that BELIEVE already", """
                tell 0 3 -> NONE
                tell 1 3 -> NONE
                tell 9 0 -> NONE
                house 9 0 0 -> 5
                year 9999 1 0 -> 3
                year 9999 1 1 -> 2
                year 9999 1 2 -> 45
                """);
        Runs.run("promise 25, refused", """
                year -1 5 0 -> OUTSIDE
                year 10000 5 0 -> OUTSIDE
                year 5 0 0 -> OUTSIDE
                year 5 100 0 -> OUTSIDE
                year 5 5 3 -> OUTSIDE
                year 5 5 -1 -> OUTSIDE
                year MOST MOST MOST -> OUTSIDE
                year LEAST 5 0 -> OUTSIDE
                """);
    }

    private static void images() {
        String all = """
                road 10 0 4 -> 0
                house 1 2 1 -> 5
                tell 2 3 -> NONE
                fade 4 5 -> 4
                seen 6 7 -> 1
                pad .=89A
                done -> 3
                """;
        String asKept = """
                told 1010 -> 4
                told 1200 -> 4
                told 111 -> 2
                told 120 -> 3
                told 14 -> 5
                told 5 -> 1
                told 1 -> 0
                told 2 -> 86
                told 3 -> 8
                told 4 -> 1
                """;
        String changed = """
                road 10 0 0 -> 4
                house 1 9 0 -> 2
                tell 2 -1 -> 3
                fade 4 6 -> 5
                forget -> 1
                seen 1 1 -> 1
                seen 2 1 -> 2
                pad ..
                done -> 2
                pad =x
                """;
        Runs.run("promises 26 and 27", all + "image 1 -> 1\n" + asKept + changed + """
                restore 0 -> STATE
                told 111 -> 9
                restore 1 -> 1
                # the PAD is as it was said
                told 0 -> 2
                fault -> 1
                # the linen had dried before it was kept
                told 112 -> 0
                """ + asKept + """
                # what was seen is as it was, too: the next one is the second
                seen 9 9 -> 2
                restore 1 -> 1
                told 5 -> 1
                wipe -> 2
                """ + changed + "restore 1 -> 1\n" + asKept);
        Runs.run("promise 26, one does not touch the other; kept again it is another", """
                image 0 -> 1
                house 0 0 1 -> 5
                image 1 -> 1
                house 0 9 0 -> 0
                restore 0 -> 1
                told 101 -> 5
                told 102 -> 0
                restore 1 -> 1
                told 101 -> 0
                told 102 -> 1
                image 0 -> 1
                house 0 7 0 -> 0
                restore 0 -> 1
                told 101 -> 0
                """);
        Runs.run("promises 26 and 27, sights in an image", """
                seen 0 3 -> 1
                image 0 -> 1
                forget -> 1
                seen 0 4 -> 1
                fits 0 -> 41
                restore 0 -> 1
                fits 0 -> 31
                # which bed it was is kept, too
                fade 3 4 -> 3
                forget -> 1
                seen 40 4 -> 1
                image 0 -> 1
                forget -> 1
                seen 0 4 -> 1
                fits -1 -> 5
                restore 0 -> 1
                fits -1 -> 10
                """);
        Runs.run("promises 26 and 27, refused", """
                image 2 -> OUTSIDE
                image -1 -> OUTSIDE
                image MOST -> OUTSIDE
                restore 2 -> OUTSIDE
                restore -1 -> OUTSIDE
                restore LEAST -> OUTSIDE
                restore 0 -> STATE
                restore 1 -> STATE
                """);
    }

    private static void told() {
        Runs.run("promise 28", """
                pad =73
                told 0 -> 3
                told 2 -> 0
                done -> 1
                told 0 -> 0
                told 1 -> 10
                told 2 -> 30
                told 3 -> 7
                seen 0 0 -> 1
                told 5 -> 1
                fade 9 0 -> 9
                told 19 -> 0
                tell 9 0 -> NONE
                house 9 8 1 -> 5
                told 190 -> 0
                told 191 -> 8
                told 192 -> 1
                road 9 10 6 -> 0
                told 1190 -> 6
                told 1209 -> 6
                told 1210 -> 0
                told 1000 -> 0
                told 1180 -> 0
                """);
        for (int what = -200; what <= 1500; what++) {
            boolean alone = what >= 0 && what <= 5 || what >= 10 && what <= 19;
            boolean house = what >= 100 && what < 200 && what % 10 < 3;
            boolean roads = what >= 1000 && what <= 1210 && (what - 1000) % 20 <= 10;
            if (!alone && !house && !roads) {
                Runs.run("promise 28, refused", "told " + what + " -> OUTSIDE");
            }
        }
        Runs.run("promise 28, refused", "told MOST -> OUTSIDE \n told LEAST -> OUTSIDE");
    }
}
