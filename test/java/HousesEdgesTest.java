/** The sentences that name a boundary: how calls are refused, Terms 1, promises 1 to 8. */
public final class HousesEdgesTest {
    private static final String LETTERS = "ABCDEFGHIJk";

    public static void main(String[] args) {
        refusals();
        numbersTold();
        places();
        roads();
        houses();
        talesAndPan();
        pads();
        filling();
        carrying();
        dampBeds();
        dryBeds();
        stirring();
        mornings();
        faults();
        leastReasons();
        newObject();
        promisesTwoToFive();
        promisesSixToEight();
        Runs.end();
    }

    private static String each(String rows) {
        StringBuilder all = new StringBuilder();
        for (int house = 0; house < 10; house++) {
            all.append(rows.replace("#H", "" + house).replace("#L", "" + LETTERS.charAt(house))
                    .replace("#0", "" + (100 + 10 * house)).replace("#1", "" + (101 + 10 * house))
                    .replace("#2", "" + (102 + 10 * house)).replace("#F", "" + (10 + house))).append('\n');
        }
        return all.toString();
    }

    private static void refusals() {
        String order = "Calls that are refused answer, the first of these that fits: UNKNOWN -1 (there is no such HOUSE, PLACE, TALE),"
                + " OUTSIDE -2 (another number is not as told), NO -5 (as told), STATE -3 (as told), FULL -4";
        Edges.edge(order, """
                # UNKNOWN ahead of OUTSIDE
                road 11 0 10 -> -1
                road 0 11 -1 -> -1
                road 3 3 10 -> -1
                house 10 10 0 -> -1
                house -1 0 2 -> -1
                behind 10 3 -> -1
                near 11 0 2 -> -1
                near 0 11 -1 -> -1
                keep 10 2 -> -1
                faded 10 100 -> -1
                faded -1 -3 -> -1
                seen 41 10 -> -1
                # UNKNOWN ahead of NO
                pad =
                behind 10 0 -> -1
                behind 10 3 -> -1
                holds 10 -> -1
                # OUTSIDE ahead of NO
                judge 3 -> -2
                behind 0 3 -> -2
                pan 4 -> -2
                other 2 -> -2
                # UNKNOWN and OUTSIDE ahead of STATE
                pad *
                behind 10 0 -> -1
                holds -1 -> -1
                judge 3 -> -2
                behind 0 -1 -> -2
                pan -1 -> -2
                other -1 -> -2
                restore 2 -> -2
                # NO ahead of STATE: the first ACT can not be, and the last sign can not stand there
                pad *=
                judge 2 -> -5
                behind 0 0 -> -5
                pan 0 -> -5
                holds 0 -> -5
                other 0 -> -5
                done -> -5
                """);
        Edges.edge(order, "pad " + ".".repeat(60) + "\n say 32 -> -2 \n say 127 -> -2 \n say 46 -> -4");
        Edges.edge(order, "seen 0 0 -> 1 \n seen 0 0 -> 2 \n seen 0 0 -> 3 \n seen 0 0 -> 4 \n seen 0 0 -> 5 \n seen 0 0 -> 6 \n"
                + "seen 0 0 -> 7 \n seen 0 0 -> 8 \n seen 0 10 -> -1 \n seen 41 0 -> -2 \n seen 41 10 -> -1 \n seen 0 0 -> -4");
        String close = """
                road 10 0 3 -> 0
                road 0 4 9 -> 0
                house 0 2 1 -> 5
                house 4 1 0 -> 5
                tell 0 6 -> NONE
                fade 6 2 -> 6
                seen 3 6 -> 1
                pad .=69A
                done -> 3
                """;
        String nothing = "They change nothing";
        String sentence = nothing + " (a sign that is said changes what fault() tells)";
        Edges.edge(sentence, "say 46 -> 1 \n fault -> NONE \n say 33 -> 2 \n fault -> 1 \n say 32 -> OUTSIDE \n fault -> 1");
        Edges.unchanged(nothing, close + "pad *~k\n", "road 11 0 4 -> UNKNOWN", "road 0 -1 4 -> UNKNOWN", "road 0 0 4 -> UNKNOWN",
                "road 10 0 10 -> OUTSIDE", "road 10 0 -1 -> OUTSIDE", "house 10 3 0 -> UNKNOWN", "house 0 10 0 -> OUTSIDE",
                "house 0 3 2 -> OUTSIDE", "house 0 -1 0 -> OUTSIDE", "house 0 3 -1 -> OUTSIDE", "tell 10 3 -> UNKNOWN",
                "tell 0 10 -> UNKNOWN", "tell 0 -2 -> UNKNOWN", "fade 10 3 -> UNKNOWN", "fade 6 10 -> UNKNOWN",
                "fade -1 3 -> UNKNOWN", "fade 6 -1 -> UNKNOWN", "say 32 -> OUTSIDE", "say 127 -> OUTSIDE");
        Edges.unchanged(nothing, close, "seen 41 3 -> OUTSIDE", "seen -1 3 -> OUTSIDE", "seen 3 10 -> UNKNOWN",
                "seen 3 -1 -> UNKNOWN", "image 2 -> OUTSIDE", "image -1 -> OUTSIDE", "restore 2 -> OUTSIDE", "restore 1 -> STATE",
                "year 10000 9 0 -> OUTSIDE", "year 9 100 0 -> OUTSIDE", "round 100 0 -> OUTSIDE", "near 0 4 2 -> OUTSIDE",
                "keep 0 2 -> OUTSIDE", "row 11 0 0 0 0 0 -> GONE", "embers 61 0 -> OUTSIDE", "ask 2 -> OUTSIDE",
                "fits -2 -> NONE", "faded 0 100 -> OUTSIDE", "told 6 -> OUTSIDE");
        Edges.unchanged(nothing, close + "pad *A\n", "done -> STATE", "judge 2 -> STATE", "behind 0 0 -> STATE", "holds 0 -> STATE",
                "pan 0 -> STATE", "other 0 -> STATE");
        Edges.unchanged(nothing, close + "pad *=\n", "done -> NO", "judge 0 -> NO", "behind 0 0 -> NO", "holds 0 -> NO",
                "pan 0 -> NO", "other 0 -> NO");
        Edges.unchanged(nothing, close + "pad " + "~".repeat(60) + "\n", "say 46 -> FULL", "say 61 -> FULL");
        StringBuilder sights = new StringBuilder("forget -> 1 \n");
        for (int i = 1; i <= 8; i++) {
            sights.append("seen " + i + " 1 -> " + i + "\n");
        }
        Edges.unchanged(nothing, close + sights, "seen 9 1 -> FULL", "seen 9 2 -> FULL", "seen 41 1 -> OUTSIDE");
        Edges.edge(nothing, "image 0 -> 1 \n house 3 9 0 -> 5 \n image 2 -> OUTSIDE \n image -1 -> OUTSIDE \n restore 1 -> STATE \n"
                + "restore 0 -> 1 \n told 131 -> 5 \n restore 1 -> STATE");
    }

    private static void numbersTold() {
        Edges.edge("Fractions are told in lowest terms by part: 0 the upper, 1 the lower number", """
                row 2 5 5 1 0 0 -> 1
                row 2 5 5 1 0 1 -> 2
                row 3 5 0 2 0 0 -> 1
                row 3 5 0 2 0 1 -> 8
                row 1 7 0 1 0 0 -> 7
                row 1 7 0 1 0 1 -> 10
                # nought is 0 of 1, all is 1 of 1
                row 4 0 0 1 0 0 -> 0
                row 4 0 0 1 0 1 -> 1
                row 4 10 0 4 0 0 -> 1
                row 4 10 0 4 0 1 -> 1
                row 4 10 0 4 2 0 -> 4
                row 4 10 0 4 2 1 -> 1
                """);
        Edges.edge("refused with GONE and the refusal, added", """
                row 11 0 0 0 0 0 -> -1000000000000000002
                row 11 0 0 0 0 1 -> -1000000000000000002
                row 3 3 3 3 3 0 -> -1000000000000000002
                row 3 3 3 3 0 2 -> -1000000000000000002
                """);
        Edges.edge("Sets are bits.", """
                holds 4 -> 0
                tell 0 4 -> NONE
                holds 4 -> 1
                tell 9 4 -> NONE
                holds 4 -> 513
                road 10 3 1 -> 0
                road 3 9 1 -> 0
                keep 9 1 -> 8
                round 99 1 -> 520
                """);
        StringBuilder calls = new StringBuilder("road 10 0 1 -> 0 \n road 0 9 1 -> 0 \n image 1 -> 1 \n");
        for (int i = 0; i < 509; i++) {
            String[] dear = {"round 99 1 -> 513", "keep 9 1 -> 1", "ask 1 -> 5", "near 10 9 1 -> 0", "image 0 -> 1",
                "restore 1 -> 1", "faded 9 99 -> 9", "row 10 1 1 10 0 1 -> 10000000000", "embers 60 1 -> 5", "fits 49 -> 95"};
            calls.append(dear[i % dear.length]).append('\n');
        }
        Edges.edge("An object is used for at most 512 calls after it has been made", calls.toString());
    }

    private static void places() {
        Edges.edge("HOUSES 0 to 9 (A to J), and the KITCHEN (10), are PLACES.", each("""
                house #H 4 0 -> 5
                tell #H 2 -> NONE
                behind #H 1 -> 4
                keep #H 0 -> 0
                road 10 #H 3 -> 0
                near #H 10 0 -> 3
                pad #L
                pan 0 -> #H
                pad #Lk
                pan 0 -> 10
                """) + """
                near 10 10 0 -> 0
                house 10 4 0 -> UNKNOWN
                house -1 4 0 -> UNKNOWN
                tell 10 2 -> UNKNOWN
                tell -1 2 -> UNKNOWN
                behind 10 1 -> UNKNOWN
                behind -1 1 -> UNKNOWN
                keep 10 0 -> UNKNOWN
                keep -1 0 -> UNKNOWN
                road 11 0 3 -> UNKNOWN
                road 0 11 3 -> UNKNOWN
                road -1 0 3 -> UNKNOWN
                road 0 -1 3 -> UNKNOWN
                near 11 0 0 -> UNKNOWN
                near 0 11 0 -> UNKNOWN
                near -1 0 0 -> UNKNOWN
                near 0 -1 0 -> UNKNOWN
                """);
        // the letters around those of HOUSES, and the KITCHEN's in capitals
        for (char sign : new char[] {'@', 'K', 'a', 'j', 'l', 'Z'}) {
            Edges.edge("HOUSES 0 to 9 (A to J), and the KITCHEN (10), are PLACES.", "say " + (int) sign + " -> 1 \n fault -> 0");
        }
    }

    private static void roads() {
        StringBuilder both = new StringBuilder();
        for (int one = 0; one <= 10; one++) {
            for (int other = 0; other < one; other++) {
                int v = 1 + (3 * one + other) % 9;
                both.append("road " + one + " " + other + " " + v + " -> 0 \n");
                both.append("told " + (1000 + 20 * one + other) + " -> " + v + "\n");
                both.append("told " + (1000 + 20 * other + one) + " -> " + v + "\n");
                both.append("road " + other + " " + one + " " + v + " -> " + v + "\n");
            }
        }
        Edges.edge("ROADS lead between two PLACES, both ways", both.toString());
        Edges.edge("ROADS lead between two PLACES, both ways", """
                road 4 10 2 -> 0
                road 4 7 3 -> 0
                pad =09EHEkEH
                judge 0 -> NONE
                pan 1 -> 75
                near 10 7 0 -> 5
                near 7 10 0 -> 5
                """);
        Edges.edge("each LONG by 1 to 9 (none at first)", """
                road 10 0 1 -> 0
                road 10 0 9 -> 1
                road 10 0 10 -> OUTSIDE
                road 10 0 -1 -> OUTSIDE
                road 10 0 4 -> 9
                """);
        for (int one = 0; one <= 10; one++) {
            StringBuilder none = new StringBuilder();
            for (int other = 0; other <= 10; other++) {
                none.append("told " + (1000 + 20 * one + other) + " -> 0 \n");
                none.append(one == other ? "" : "near " + one + " " + other + " 0 -> NONE \n");
                none.append("pad " + LETTERS.charAt(other) + "\n judge 1 -> 2 \n");
            }
            Edges.edge("each LONG by 1 to 9 (none at first)", none.toString());
        }
    }

    private static void houses() {
        Edges.edge("Each HOUSE has DOUBT (0 to 9; 5 at first)", each("""
                told #1 -> 5
                behind #H 1 -> 5
                house #H 0 0 -> 5
                house #H 9 0 -> 0
                house #H 10 0 -> OUTSIDE
                house #H -1 0 -> OUTSIDE
                told #1 -> 9
                """));
        Edges.edge("its LINEN is DAMP or not (not, at first)", each("""
                told #2 -> 0
                behind #H 2 -> 0
                house #H 5 1 -> 5
                told #2 -> 1
                house #H 5 2 -> OUTSIDE
                house #H 5 -1 -> OUTSIDE
                told #2 -> 1
                house #H 5 0 -> 5
                told #2 -> 0
                """));
        Edges.edge("it BELIEVES a TALE (0 to 9) or none (at first)", each("""
                told #0 -> NONE
                behind #H 0 -> NONE
                tell #H 0 -> NONE
                tell #H 9 -> 0
                tell #H 10 -> UNKNOWN
                told #0 -> 9
                tell #H -1 -> 9
                told #0 -> NONE
                tell #H -2 -> UNKNOWN
                """));
    }

    private static void talesAndPan() {
        Edges.edge("Each TALE FADES into one (itself, at first).", each("""
                told #F -> #H
                faded #H 1 -> #H
                fade #H 0 -> #H
                fade #H 9 -> 0
                fade #H #H -> 9
                fade #H 10 -> UNKNOWN
                fade #H -1 -> UNKNOWN
                told #F -> #H
                """));
        String pan = "The PAN is in a PLACE (the KITCHEN, at first), has HEAT (0 to 99; 0 at first), and carries a TALE (0 at first).";
        Edges.edge(pan, """
                told 1 -> 10
                told 2 -> 0
                told 3 -> 0
                pan 0 -> 10
                pan 1 -> 0
                pan 2 -> 0
                # at first it can be filled, and neither stirred nor put into a bed
                pad =99
                judge 0 -> NONE
                pad ~
                judge 1 -> 3
                # 99 at most, 0 at least
                pad =99~~
                pan 1 -> 99
                pan 2 -> 9
                road 10 0 9 -> 0
                pad =01AkA
                pan 1 -> 0
                """);
    }

    private static void pads() {
        String sentence = "NIGHTS are a text on a PAD of up to 60 signs (codes 33 to 126) of ACTS";
        Edges.edge(sentence, """
                say 33 -> 1
                say 126 -> 2
                say 32 -> OUTSIDE
                say 127 -> OUTSIDE
                say 0 -> OUTSIDE
                say -33 -> OUTSIDE
                say MOST -> OUTSIDE
                say LEAST -> OUTSIDE
                told 0 -> 2
                """);
        Edges.edge(sentence, "pad " + "!".repeat(59) + "\n told 0 -> 59 \n say 33 -> 60 \n say 33 -> FULL \n told 0 -> 60");
        // a code is no other code by its lower bits
        Edges.edge(sentence, "say 302 -> OUTSIDE \n say 65582 -> OUTSIDE \n say -210 -> OUTSIDE \n told 0 -> 0");
    }

    private static void filling() {
        String sentence = "= and a digit 0 to 9 and a digit 1 to 9 (the PAN is filled: it carries that TALE, HEAT is ten times the other"
                + " digit)";
        for (int tale = 0; tale <= 9; tale++) {
            Edges.edge(sentence, "pad =" + tale + "0 \n fault -> 2");
            for (int heat = 1; heat <= 9; heat++) {
                Edges.edge(sentence, "pad =" + tale + heat + "\n fault -> NONE \n judge 0 -> NONE \n pan 1 -> " + 10 * heat
                        + "\n pan 2 -> " + tale + "\n pan 0 -> 10");
            }
        }
        Edges.edge(sentence, """
                # the signs around the digits
                pad =/5
                fault -> 1
                pad =:5
                fault -> 1
                pad =5/
                fault -> 2
                pad =5:
                fault -> 2
                # what it carried, how hot it was, is gone
                pad =99=01
                pan 1 -> 10
                pan 2 -> 0
                """);
    }

    private static void carrying() {
        String sentence = "a HOUSE's letter, or k (it is carried along a ROAD to that HOUSE, to the KITCHEN: HEAT is as much less as the"
                + " ROAD is LONG, 0 at least)";
        for (int v = 1; v <= 9; v++) {
            Edges.edge(sentence, "road 10 6 " + v + " -> 0 \n pad =14G \n pan 0 -> 6 \n pan 1 -> " + (40 - v) + "\n pan 2 -> 1 \n"
                    + "pad =14Gk \n pan 0 -> 10 \n pan 1 -> " + (40 - 2 * v) + "\n pan 2 -> 1");
        }
        Edges.edge(sentence, """
                road 10 0 9 -> 0
                road 0 1 1 -> 0
                road 0 2 2 -> 0
                # 1 and 1 is just 0, 1 and 2 is 0 as well
                pad =01A
                pan 1 -> 1
                pad =01AB
                pan 1 -> 0
                pad =01AC
                pan 1 -> 0
                pad =01ABAC
                pan 1 -> 0
                pan 0 -> 2
                """);
    }

    private static void dampBeds() {
        String sentence = "is LINEN DAMP, HEAT is 10 less, 0 at least";
        int[][] heats = {{88, 78}, {12, 2}, {11, 1}, {10, 0}, {9, 0}, {1, 0}};
        for (int[] heat : heats) {
            Edges.edge(sentence, Edges.heated(heat[0]) + "house 1 0 1 -> 5 \n say 42 -> 6 \n pan 1 -> " + heat[1]
                    + "\n behind 1 0 -> NONE \n behind 1 1 -> 0 \n behind 1 2 -> 1");
        }
    }

    private static void dryBeds() {
        int[][] heats = {{88, 83}, {7, 2}, {6, 1}, {5, 0}, {4, 0}, {1, 0}};
        for (int[] heat : heats) {
            Edges.edge("else HEAT is 5 less, 0 at least", Edges.heated(heat[0]) + "say 42 -> 6 \n pan 1 -> " + heat[1]);
        }
        for (int doubt = 0; doubt <= 9; doubt++) {
            int least = 9 * doubt + 1;
            Edges.edge("if it was above 9 times DOUBT ahead of that, the HOUSE BELIEVES the TALE", Edges.heated(least) + "house 1 "
                    + doubt + " 0 -> 5 \n say 42 -> 6 \n behind 1 0 -> 3 \n behind 1 1 -> " + doubt + "\n behind 1 2 -> 0");
            if (doubt > 0) {
                Edges.edge("else its DOUBT is 1 more, 9 at most", Edges.heated(least - 1) + "house 1 " + doubt
                        + " 0 -> 5 \n say 42 -> 6 \n behind 1 0 -> NONE \n behind 1 1 -> " + Math.min(9, doubt + 1));
            }
        }
        Edges.edge("else its DOUBT is 1 more, 9 at most", Edges.heated(70) + """
                house 1 8 0 -> 5
                tell 1 6 -> NONE
                say 42 -> 6
                behind 1 1 -> 9
                say 42 -> 7
                behind 1 1 -> 9
                # who doubts BELIEVES what it did
                behind 1 0 -> 6
                """);
    }

    private static void stirring() {
        int[][] heats = {{1, 11}, {88, 98}};
        for (int[] heat : heats) {
            Edges.edge("it is stirred: HEAT is 10 more, 99 at most", Edges.heated(heat[0]) + "say 126 -> 6 \n pan 1 -> " + heat[1]);
        }
        Edges.edge("it is stirred: HEAT is 10 more, 99 at most", """
                road 10 0 1 -> 0
                # 89, 90, 99
                pad =09A~
                pan 1 -> 99
                pad =09~
                pan 1 -> 99
                pad =09~~
                pan 1 -> 99
                pad =09~A~
                pan 1 -> 99
                """);
        Edges.edge("and the TALE is what it FADES into", """
                fade 0 9 -> 0
                fade 9 4 -> 9
                pad =05~
                pan 2 -> 9
                pad =05~~
                pan 2 -> 4
                # into itself
                pad =05~~~
                pan 2 -> 4
                pad =85~
                pan 2 -> 8
                """);
    }

    private static void mornings() {
        Edges.edge("morning: the PAN is in the KITCHEN, HEAT 0, and no LINEN is DAMP any more", each("house #H 3 1 -> 5") + """
                tell 5 5 -> NONE
                road 10 4 1 -> 0
                pad =88E
                done -> 2
                pad .
                pan 0 -> 10
                pan 1 -> 0
                pan 2 -> 8
                """ + each("""
                behind #H 2 -> 0
                told #2 -> 1
                behind #H 1 -> 3
                """) + """
                behind 5 0 -> 5
                # in the KITCHEN it is morning as well
                pad k=88.
                pan 0 -> 10
                pan 1 -> 0
                """);
    }

    private static void faults() {
        String sentence = "THE FAULT: the place (from 0 on) of the first sign that can not stand there, or the number of signs, if more"
                + " must come";
        Edges.edge(sentence, """
                # the first sign, the last one, the first of two
                pad !
                fault -> 0
                pad *~.!
                fault -> 3
                pad *!~!
                fault -> 1
                # more must come: two signs, one sign
                pad =
                fault -> 1
                pad .=
                fault -> 2
                pad .=0
                fault -> 3
                pad .=01
                fault -> NONE
                # what can not stand there is ahead of what must come
                pad ==
                fault -> 1
                pad =0=
                fault -> 2
                pad =!=
                fault -> 1
                pad =00=
                fault -> 2
                # a digit that no = asks for
                pad =011
                fault -> 3
                pad 1
                fault -> 0
                # ACTS that can not be, or are not needed, stand
                pad k.k.~*JJJ
                fault -> NONE
                """);
        String full = ".".repeat(57);
        Edges.edge(sentence, "pad " + full + "=01 \n fault -> NONE \n pad " + full + "..= \n fault -> 60 \n pad " + full
                + ".=9 \n fault -> 60 \n pad " + full + "..! \n fault -> 59 \n pad " + full + "=00 \n fault -> 59");
        Edges.edge("(an empty PAD has no FAULT: no ACTS)", """
                fault -> NONE
                judge 0 -> NONE
                judge 1 -> NONE
                judge 2 -> 0
                done -> 0
                pad =
                wipe -> 1
                fault -> NONE
                done -> 0
                """);
    }

    private static void leastReasons() {
        Edges.edge("An ACT can not be for the least of these reasons", """
                # in the KITCHEN, and HEAT is 0
                pad *
                judge 1 -> 1
                # no ROAD leads there, and HEAT is 0
                pad A
                judge 1 -> 2
                """);
        Edges.edge("1 the PAN is not in the KITCHEN (=), is there (*)", each("""
                road 10 #H 9 -> 0
                pad #L=11
                judge 0 -> 1
                judge 1 -> 1
                pad =11#Lk=11
                judge 0 -> NONE
                pad =11#L*
                judge 0 -> NONE
                pad =11#Lk*
                judge 0 -> 3
                judge 1 -> 1
                """) + "pad =11* \n judge 0 -> 1 \n judge 1 -> 1 \n pad =11=22 \n judge 0 -> NONE");
        Edges.edge("2 no ROAD leads there (carried)", each("""
                pad #L
                judge 1 -> 2
                road 10 #H 1 -> 0
                judge 1 -> NONE
                # not to where it is
                pad #L#L
                judge 0 -> 1
                judge 1 -> 2
                road 10 #H 0 -> 1
                judge 0 -> 0
                judge 1 -> 2
                """) + """
                # two ROADS that lead there are none
                road 10 0 1 -> 0
                road 0 1 1 -> 0
                pad B
                judge 1 -> 2
                pad AB
                judge 1 -> NONE
                pad ABk
                judge 0 -> 2
                judge 1 -> 2
                # from the KITCHEN to the KITCHEN
                pad k
                judge 1 -> 2
                """);
        Edges.edge("3 HEAT is 0 (*, ~)", Edges.heated(0) + """
                say 42 -> 6
                judge 0 -> 3
                judge 1 -> 3
                wipe -> 6
                pad =31AB~
                judge 0 -> 3
                judge 1 -> 3
                # it can be carried, and there can be a morning, and it can be filled
                pad =31ABA.=11
                judge 0 -> NONE
                """);
        Edges.edge("3 HEAT is 0 (*, ~)", Edges.heated(1) + "say 42 -> 6 \n judge 0 -> NONE");
        Edges.edge("3 HEAT is 0 (*, ~)", Edges.heated(1) + "say 126 -> 6 \n judge 0 -> NONE");
        Edges.edge("4 there were 99 mornings already (.)", "pad " + ".".repeat(60) + "\n done -> 60 \n pad " + ".".repeat(38)
                + "\n done -> 38 \n pad . \n judge 0 -> NONE \n pan 3 -> 99 \n pad .. \n judge 0 -> 1 \n judge 1 -> 4 \n pad . \n"
                + "done -> 1 \n told 4 -> 99 \n judge 0 -> NONE \n pad . \n judge 0 -> 0 \n judge 1 -> 4 \n done -> STATE \n"
                + "told 4 -> 99 \n pad =11~ \n judge 0 -> NONE");
    }

    private static void newObject() {
        Edges.edge("No ROADS; nobody BELIEVES a thing.", each("""
                told #0 -> NONE
                holds #H -> 0
                near 10 #H 0 -> NONE
                pad #L
                judge 1 -> 2
                wipe -> 1
                """) + "round 99 0 -> 0 \n wipe -> 0 \n forget -> 0 \n fault -> NONE \n restore 0 -> STATE \n"
                + "restore 1 -> STATE \n told 4 -> 0 \n told 5 -> 0");
        // what one object was told is nothing to another one
        PanTales one = Runs.after("No ROADS; nobody BELIEVES a thing.", "tell 3 3 -> NONE \n road 10 3 3 -> 0 \n image 0 -> 1 \n pad =");
        PanTales another = Runs.after("No ROADS; nobody BELIEVES a thing.", "told 130 -> NONE \n told 1203 -> 0 \n restore 0 -> STATE \n"
                + "told 0 -> 0");
        Runs.due("No ROADS; nobody BELIEVES a thing.", "of two", one.told(130) * 100 + another.told(130), 294);
    }

    private static void promisesTwoToFive() {
        Edges.edge("A ROAD between two PLACES, LONG (0: none): how LONG it was. UNKNOWN: both, both one; OUTSIDE.", """
                road 10 9 0 -> 0
                road 10 9 9 -> 0
                road 9 10 1 -> 9
                road 10 9 0 -> 1
                near 10 9 0 -> NONE
                pad J
                judge 1 -> 2
                road 10 9 0 -> 0
                road 9 9 0 -> UNKNOWN
                road 0 0 10 -> UNKNOWN
                road 11 11 1 -> UNKNOWN
                road -1 11 1 -> UNKNOWN
                road 0 1 LEAST -> OUTSIDE
                road 0 1 MOST -> OUTSIDE
                """);
        Edges.edge("DOUBT of a HOUSE, whether its LINEN is DAMP (1, 0): which DOUBT it had. UNKNOWN; OUTSIDE.", """
                house 9 0 1 -> 5
                house 9 9 1 -> 0
                house 9 9 0 -> 9
                told 192 -> 0
                house 0 7 1 -> 5
                told 102 -> 1
                told 192 -> 0
                house LEAST 0 0 -> UNKNOWN
                house MOST 0 0 -> UNKNOWN
                house 0 LEAST 0 -> OUTSIDE
                house 0 MOST 0 -> OUTSIDE
                house 0 0 LEAST -> OUTSIDE
                house 0 0 MOST -> OUTSIDE
                told 101 -> 7
                """);
        Edges.edge("What a HOUSE BELIEVES (-1: none): which it was (NONE). UNKNOWN: it, the TALE.", """
                tell 9 -1 -> NONE
                tell 9 0 -> NONE
                tell 9 -1 -> 0
                tell 9 9 -> NONE
                tell 9 9 -> 9
                holds 9 -> 512
                # NONE is no TALE that can be told
                tell 9 -6 -> UNKNOWN
                tell 9 MOST -> UNKNOWN
                tell 9 LEAST -> UNKNOWN
                tell MOST 9 -> UNKNOWN
                tell LEAST 9 -> UNKNOWN
                told 190 -> 9
                """);
        Edges.edge("Into what a TALE FADES: which it was. UNKNOWN: both.", """
                fade 9 0 -> 9
                fade 9 9 -> 0
                fade 0 9 -> 0
                fade 0 0 -> 9
                fade 10 9 -> UNKNOWN
                fade 9 10 -> UNKNOWN
                fade -1 -1 -> UNKNOWN
                fade MOST 9 -> UNKNOWN
                fade 9 LEAST -> UNKNOWN
                told 19 -> 9
                """);
    }

    private static void promisesSixToEight() {
        Edges.edge("A sign more: how many. OUTSIDE; FULL.", "pad " + "=".repeat(59) + "\n say 32 -> OUTSIDE \n say 126 -> 60 \n"
                + "say 126 -> FULL \n say 127 -> OUTSIDE \n wipe -> 60 \n say 33 -> 1");
        Edges.edge("Signs go: how many there were.", """
                wipe -> 0
                pad =
                wipe -> 1
                wipe -> 0
                told 0 -> 0
                fault -> NONE
                # those that are said then stand at the beginning, and nothing behind them
                say 49 -> 1
                fault -> 0
                pad =55
                wipe -> 3
                say 61 -> 1
                fault -> 1
                say 50 -> 2
                fault -> 2
                wipe -> 2
                say 33 -> 1
                # nothing else goes
                tell 0 3 -> NONE
                seen 0 3 -> 1
                wipe -> 1
                told 100 -> 3
                told 5 -> 1
                """);
        Edges.edge("THE FAULT; NONE.", "fault -> NONE \n pad .. \n fault -> NONE \n say 33 -> 3 \n fault -> 2 \n fault -> 2");
    }
}
