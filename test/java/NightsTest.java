/** Promises 9 to 14: nights as a text, judged, and what is behind them. */
public final class NightsTest {
    /** KITCHEN to A 2, A to B 3, B to C 9, KITCHEN to D 1; TALE 7 fades into 3, 3 into 4. */
    private static final String CLOSE = """
            road 10 0 2 -> 0
            road 0 1 3 -> 0
            road 1 2 9 -> 0
            road 10 3 1 -> 0
            fade 7 3 -> 7
            fade 3 4 -> 3
            """;

    public static void main(String[] args) {
        judged();
        reasons();
        beds();
        stirs();
        mornings();
        believers();
        others();
        done();
        refusals();
        Runs.end();
    }

    private static void on(String about, String rows) {
        Runs.run(about, CLOSE + rows);
    }

    private static void judged() {
        on("promise 9", """
                judge 0 -> NONE
                judge 1 -> NONE
                judge 2 -> 0
                pad =79A*B*k
                judge 0 -> 5
                judge 1 -> 2
                judge 2 -> STATE
                pad =79A*B*A*
                judge 0 -> NONE
                judge 1 -> NONE
                judge 2 -> 3
                # a damp bed is a bed, too
                house 1 5 1 -> 5
                judge 2 -> 3
                judge 3 -> OUTSIDE
                judge -1 -> OUTSIDE
                judge MOST -> OUTSIDE
                judge LEAST -> OUTSIDE
                pad =79A*B*A*=
                judge 0 -> NO
                judge 1 -> NO
                judge 2 -> NO
                judge 3 -> OUTSIDE
                pad =79A*B*A*x
                judge 0 -> NO
                """);
    }

    private static void reasons() {
        on("promise 9, why", """
                # 1: it is filled in the KITCHEN alone, put into beds elsewhere
                pad =11A=11
                judge 0 -> 2
                judge 1 -> 1
                pad =11=22
                judge 0 -> NONE
                pad =11*
                judge 0 -> 1
                judge 1 -> 1
                # the least of the reasons: HEAT is 0 as well
                pad *
                judge 1 -> 1
                # 2: no ROAD, of one with itself neither
                pad B
                judge 0 -> 0
                judge 1 -> 2
                pad k
                judge 1 -> 2
                pad AA
                judge 0 -> 1
                judge 1 -> 2
                # 3: HEAT is 0
                pad ~
                judge 1 -> 3
                pad A*
                judge 0 -> 1
                judge 1 -> 3
                pad =11AB*k
                judge 0 -> 4
                judge 1 -> 2
                pad =11A*~
                judge 0 -> NONE
                pad =11A*A
                judge 1 -> 2
                pad =11AB**
                judge 0 -> 4
                judge 1 -> 3
                pad =11AB*~
                judge 0 -> 4
                judge 1 -> 3
                # HEAT 1 is enough
                road 3 4 8 -> 0
                pad =01DE*
                judge 0 -> NONE
                pad =01DE~
                judge 0 -> NONE
                road 3 4 9 -> 8
                pad =01DE~
                judge 1 -> 3
                # a cold PAN can be carried, and a cold night can end
                pad AkAk.
                judge 0 -> NONE
                """);
        String nights = "pad " + ".".repeat(60) + "\n done -> 60 \n pad " + ".".repeat(39) + "\n";
        Runs.run("promise 9, 99 mornings", nights + """
                pan 3 -> 99
                judge 0 -> NONE
                say 46 -> 40
                judge 0 -> 39
                judge 1 -> 4
                pan 3 -> STATE
                done -> STATE
                told 4 -> 60
                """);
    }

    private static void beds() {
        on("promise 10", """
                house 0 5 0 -> 5
                # HEAT 48 is above 45: it BELIEVES, DOUBT stays
                pad =75A*
                behind 0 0 -> 7
                behind 0 1 -> 5
                behind 0 2 -> 0
                pan 1 -> 43
                # HEAT 45 is not above 45 (a ROAD of 5)
                road 10 4 5 -> 0
                pad =75E*
                behind 4 0 -> NONE
                behind 4 1 -> 6
                pan 1 -> 40
                pad =75E**
                behind 4 1 -> 7
                pan 1 -> 35
                # nothing is so in fact
                told 141 -> 5
                told 140 -> NONE
                """);
        on("promise 10, DAMP", """
                house 0 0 1 -> 5
                pad =75A*
                behind 0 0 -> NONE
                behind 0 1 -> 0
                behind 0 2 -> 1
                pan 1 -> 38
                pad =11A*
                pan 1 -> 0
                pad =75A*.
                behind 0 2 -> 0
                told 102 -> 1
                """);
        on("promise 10, edges", """
                house 0 9 0 -> 5
                pad =05A*
                behind 0 1 -> 9
                behind 0 0 -> NONE
                house 0 0 0 -> 9
                house 3 0 0 -> 5
                # HEAT 1 is above no DOUBT: 0 at least behind it
                pad =01A*k
                behind 0 0 -> 0
                pan 1 -> 1
                pad =01DkDkDkDkD*
                behind 3 0 -> 0
                pan 1 -> 0
                behind 10 0 -> UNKNOWN
                behind -1 0 -> UNKNOWN
                behind LEAST 3 -> UNKNOWN
                behind 0 3 -> OUTSIDE
                behind 0 -1 -> OUTSIDE
                behind 0 MOST -> OUTSIDE
                """);
    }

    private static void stirs() {
        on("promise 11", """
                pan 0 -> 10
                pan 1 -> 0
                pan 2 -> 0
                pan 3 -> 0
                pad =75A
                pan 0 -> 0
                pan 1 -> 48
                pan 2 -> 7
                pad =75A~
                pan 1 -> 58
                pan 2 -> 3
                pad =75A~~
                pan 2 -> 4
                pad =75~~~
                pan 1 -> 80
                pan 2 -> 4
                # 99 at most
                pad =79~
                pan 1 -> 99
                pad =79~~Ak
                pan 1 -> 95
                # a ROAD takes no more than there is
                pad =11ABCBA
                pan 1 -> 0
                pan 0 -> 0
                pan 4 -> OUTSIDE
                pan -1 -> OUTSIDE
                pan MOST -> OUTSIDE
                """);
    }

    private static void mornings() {
        on("promise 11, mornings", """
                pad =75AB.
                pan 0 -> 10
                pan 1 -> 0
                # the TALE is still in the brass
                pan 2 -> 7
                pan 3 -> 1
                pad ...
                pan 3 -> 3
                done -> 3
                pad ..
                pan 3 -> 5
                pan 0 -> 10
                """);
    }

    private static void believers() {
        on("promise 12", """
                house 0 1 0 -> 5
                house 1 1 0 -> 5
                tell 9 7 -> NONE
                tell 8 3 -> NONE
                holds 7 -> 512
                holds 3 -> 256
                pad =75A*B*
                holds 7 -> 515
                holds 3 -> 256
                pad =75A*~B*
                holds 7 -> 513
                holds 3 -> 258
                holds 4 -> 0
                # who is told another TALE BELIEVES the last one alone
                pad =75A*~*
                holds 7 -> 512
                holds 3 -> 257
                holds 10 -> UNKNOWN
                holds -1 -> UNKNOWN
                holds -6 -> UNKNOWN
                holds MOST -> UNKNOWN
                """);
    }

    private static void others() {
        on("promise 13", """
                other 0 -> NONE
                other 1 -> NONE
                house 0 1 0 -> 5
                house 1 1 0 -> 5
                tell 0 7 -> NONE
                # A BELIEVES that already, B BELIEVES nothing yet
                pad =79A*B*
                other 0 -> 4
                other 1 -> 1
                pad =79A*
                other 0 -> NONE
                other 1 -> NONE
                pad =79A*~*B*
                other 0 -> 4
                other 1 -> 0
                pad =69A*
                other 0 -> 2
                other 1 -> 0
                # a bed that does not convince is not the first one
                tell 0 -1 -> 7
                house 0 9 0 -> 1
                pad =55A*B*
                other 0 -> 4
                other 1 -> 1
                other 2 -> OUTSIDE
                other -1 -> OUTSIDE
                other LEAST -> OUTSIDE
                """);
    }

    private static void done() {
        on("promise 14", """
                house 0 1 0 -> 5
                house 3 9 0 -> 5
                house 9 9 1 -> 5
                pad =75A*k.D
                done -> 6
                told 0 -> 0
                told 1 -> 3
                told 2 -> 0
                told 3 -> 7
                told 4 -> 1
                told 100 -> 7
                told 192 -> 0
                done -> 0
                # the next nights go on from there
                pad k=55D*
                done -> 4
                told 1 -> 3
                told 2 -> 44
                told 3 -> 5
                told 131 -> 9
                told 130 -> NONE
                told 1010 -> 2
                """);
        on("promise 14, refused", """
                pad =75A*A
                done -> STATE
                told 0 -> 6
                told 1 -> 10
                told 100 -> NONE
                told 101 -> 5
                pad =75A*=
                done -> NO
                told 0 -> 6
                told 101 -> 5
                """);
    }

    private static void refusals() {
        for (String text : new String[] {"=75A*A", "=75A*="}) {
            String refusal = text.endsWith("=") ? "NO" : "STATE";
            for (String call : new String[] {"behind 0 0", "behind 9 2", "pan 0", "pan 3", "holds 7", "other 0",
                "other 1", "judge 2", "done"}) {
                on("promises 9 to 14, refused", "pad " + text + "\n" + call + " -> " + refusal);
            }
            // what is unknown or outside comes ahead of the PAD
            for (String call : new String[] {"behind 10 9", "holds 10"}) {
                on("promises 10 and 12, refused", "pad " + text + "\n" + call + " -> UNKNOWN");
            }
            for (String call : new String[] {"behind 0 9", "pan 4", "other 2", "judge 3"}) {
                on("promises 9 to 13, refused", "pad " + text + "\n" + call + " -> OUTSIDE");
            }
        }
    }
}
