/** The sentences that name a boundary: Terms 4 but the YEAR, promises 19 to 24 and 26 to 28. */
public final class SaidEdgesTest {
    private static final String SAID = "in the KITCHEN a TALE was said; the PAN was stirred ahead of each s-th bed (s 1 to 5): it carries the"
            + " TALE, faded i by s (cut) times, to bed i (0 to 40).";
    private static final String FITS = "FITS: twos of TALE and s by which all SIGHTS are so: how many; the i-th (10 times the TALE and s;"
            + " rising).";
    private static final String ASK = "ASK: the bed (0 to 40) to ask next, so that, whatever was believed there, fewest of these are left at"
            + " the most: the least; how many; NONE.";
    private static final String ROW = "n HOUSES (0 to 10) in a row: the first BELIEVES with t tenths (0 to 10); each next one with t tenths,"
            + " if the one ahead of it did, else with u tenths (0 to 10)";
    private static final String MANY = "that just k of them do (0 to n), that k at least do; how many in the mean.";
    private static final String FIRST = "of n embers (1 to 60) two by turns take some; who begins one at the least, and not all (of one: he"
            + " can not)";
    private static final String WINS = "whether who begins can win (1, 0); how many he takes first for it, the least (NONE).";
    private static final String TOLD = "0 signs, 1 PLACE of the PAN, 2 HEAT, 3 its TALE, 4 mornings, 5 SIGHTS; 10 and a TALE: into what it"
            + " FADES; 100 and 10 times a HOUSE and 0 BELIEVES (NONE), 1 DOUBT, 2 DAMP (1, 0); 1000 and 20 times a PLACE and a PLACE: how"
            + " LONG the ROAD is (0: none; of one and itself, too). OUTSIDE.";

    public static void main(String[] args) {
        said();
        sights();
        fits();
        ask();
        row();
        rowRefused();
        embers();
        images();
        told();
        Runs.end();
    }

    private static void said() {
        // TALES in a ring of ten: in bed i stands the TALE and i by s, left over by ten
        for (int bed : new int[] {0, 1, 2, 3, 4, 5, 9, 10, 14, 15, 39, 40}) {
            StringBuilder rows = new StringBuilder(Runs.chain() + "fade 9 0 -> 9 \n seen " + bed + " 0 -> 1 \n fits -1 -> 5 \n");
            int i = 0;
            for (int tale = 0; tale < 10; tale++) {
                for (int s = 1; s <= 5; s++) {
                    if ((tale + bed / s) % 10 == 0) {
                        rows.append("fits " + i + " -> " + (10 * tale + s) + "\n");
                        i++;
                    }
                }
            }
            Edges.edge(SAID, rows + "fits 5 -> NONE");
        }
        Edges.edge(SAID, """
                # the ends of the way told by hand: bed 40 is behind 40, 20, 13, 10, 8 stirs, bed 4 behind 4, 2, 1, 1, 0
                fade 6 7 -> 6
                fade 7 6 -> 7
                seen 40 6 -> 1
                seen 4 6 -> 2
                # 6 with 1, 2, 4, 5 and 7 with 3; then 6 with 1, 2, 5 and 7 with 3
                fits -1 -> 4
                fits 0 -> 61
                fits 1 -> 62
                fits 2 -> 65
                fits 3 -> 73
                seen 41 6 -> OUTSIDE
                seen -1 6 -> OUTSIDE
                """);
    }

    private static void sights() {
        Edges.edge("SIGHTS, 8 at most: in bed i a TALE was believed.", """
                seen 0 0 -> 1
                seen 40 9 -> 2
                forget -> 2
                seen 0 9 -> 1
                seen 1 9 -> 2
                seen 2 9 -> 3
                seen 3 9 -> 4
                seen 4 9 -> 5
                seen 5 9 -> 6
                seen 6 9 -> 7
                fits -1 -> 5
                told 5 -> 7
                # the eighth counts, the ninth is not taken
                seen 7 8 -> 8
                fits -1 -> 0
                seen 8 8 -> FULL
                told 5 -> 8
                forget -> 8
                seen 7 8 -> 1
                fits 0 -> 81
                """);
        Edges.edge("SIGHTS, 8 at most: in bed i a TALE was believed.", """
                # eight that can all be so: of 1 by 2 alone
                fade 1 2 -> 1
                fade 2 3 -> 2
                seen 0 1 -> 1
                seen 0 1 -> 2
                seen 1 1 -> 3
                seen 1 1 -> 4
                seen 2 2 -> 5
                seen 2 2 -> 6
                seen 3 2 -> 7
                fits -1 -> 1
                seen 40 3 -> 8
                fits -1 -> 1
                fits 0 -> 12
                """);
        Edges.edge("A SIGHT more: how many. UNKNOWN: the TALE; OUTSIDE: the bed; FULL.", """
                seen 0 10 -> UNKNOWN
                seen 0 -1 -> UNKNOWN
                seen 40 MOST -> UNKNOWN
                seen 40 LEAST -> UNKNOWN
                seen 41 10 -> UNKNOWN
                seen 41 0 -> OUTSIDE
                seen -1 9 -> OUTSIDE
                seen MOST 0 -> OUTSIDE
                seen LEAST 9 -> OUTSIDE
                told 5 -> 0
                seen 40 0 -> 1
                seen 40 0 -> 2
                """);
        Edges.edge("SIGHTS go: how many there were.", """
                forget -> 0
                seen 3 3 -> 1
                seen 0 4 -> 2
                fits -1 -> 0
                forget -> 2
                forget -> 0
                told 5 -> 0
                fits -1 -> 50
                ask 1 -> 5
                # nothing else goes
                fade 1 2 -> 1
                pad .
                seen 0 1 -> 1
                forget -> 1
                told 11 -> 2
                told 0 -> 1
                """);
    }

    private static void fits() {
        Edges.edge(FITS, """
                # no SIGHTS: all of ten TALES by five
                fits -1 -> 50
                fits 0 -> 1
                fits 4 -> 5
                fits 5 -> 11
                fits 44 -> 85
                fits 45 -> 91
                fits 49 -> 95
                fits 50 -> NONE
                seen 0 9 -> 1
                fits -1 -> 5
                fits 0 -> 91
                fits 4 -> 95
                fits 5 -> NONE
                # two that can not both be so
                seen 0 0 -> 2
                fits -1 -> 0
                fits 0 -> NONE
                """);
        Edges.edge(FITS, """
                # TALES that all fade into 4: all but those with bed 1 behind no stir
                fade 0 4 -> 0
                fade 9 4 -> 9
                seen 1 4 -> 1
                fits -1 -> 7
                fits 0 -> 1
                fits 1 -> 41
                fits 5 -> 45
                fits 6 -> 91
                fits 7 -> NONE
                """);
        Edges.edge("FITS: how many (i = -1), the i-th; NONE (i below -1, too).", """
                fits -2 -> NONE
                fits -3 -> NONE
                fits -50 -> NONE
                fits LEAST -> NONE
                fits 50 -> NONE
                fits 51 -> NONE
                fits MOST -> NONE
                seen 2 7 -> 1
                fits -2 -> NONE
                fits -1 -> 5
                fits 5 -> NONE
                """);
    }

    private static void ask() {
        Edges.edge(ASK, """
                # each bed leaves as many: the least
                ask 0 -> 0
                ask 1 -> 5
                seen 3 8 -> 1
                ask 0 -> 0
                ask 1 -> 5
                # nothing fits
                seen 3 9 -> 2
                ask 0 -> NONE
                ask 1 -> NONE
                """);
        Edges.edge(ASK, """
                # one alone fits: bed 0 leaves it
                fade 1 2 -> 1
                fade 2 3 -> 2
                fade 3 4 -> 3
                fade 4 5 -> 4
                fade 5 6 -> 5
                seen 0 1 -> 1
                seen 5 6 -> 2
                fits -1 -> 1
                fits 0 -> 11
                ask 0 -> 0
                ask 1 -> 1
                """);
        Edges.edge(ASK, """
                # 1 to 5 in a ring: 1 by 2, 1 by 5, 3 by 1, 4 by 3, 5 by 4 fit
                fade 1 2 -> 1
                fade 2 3 -> 2
                fade 3 4 -> 3
                fade 4 5 -> 4
                fade 5 1 -> 5
                seen 16 4 -> 1
                fits -1 -> 5
                fits 0 -> 12
                fits 1 -> 15
                fits 2 -> 31
                fits 3 -> 43
                fits 4 -> 54
                # bed 40 alone has five TALES: behind 20, 8, 40, 13, 10 stirs 1, 4, 3, 2, 5
                ask 0 -> 40
                ask 1 -> 1
                """);
        Edges.edge(ASK, """
                # 0 by 3, 4, 5: in bed 3 they are behind 1, 0, 0 stirs; no bed tells all three apart, as two TALES are in the ring
                fade 0 1 -> 0
                fade 1 0 -> 1
                seen 0 0 -> 1
                seen 2 0 -> 2
                seen 1 0 -> 3
                fits -1 -> 3
                fits 0 -> 3
                ask 0 -> 3
                ask 1 -> 2
                """);
        Edges.edge(ASK, """
                # 7 by 1 and 7 by 2: bed 0 leaves both, bed 1 one (3 or 7)
                fade 7 3 -> 7
                fade 3 4 -> 3
                fade 4 3 -> 4
                seen 4 4 -> 1
                seen 0 7 -> 2
                fits -1 -> 2
                ask 0 -> 1
                ask 1 -> 1
                """);
        Edges.edge("ASK: the bed (what = 0), how many (1); NONE: nothing fits. OUTSIDE.", """
                ask 2 -> OUTSIDE
                ask -1 -> OUTSIDE
                ask MOST -> OUTSIDE
                ask LEAST -> OUTSIDE
                seen 0 1 -> 1
                seen 0 2 -> 2
                ask 0 -> NONE
                ask 1 -> NONE
                ask 2 -> OUTSIDE
                ask -1 -> OUTSIDE
                forget -> 2
                ask 0 -> 0
                ask 1 -> 5
                """);
    }

    private static void row() {
        Edges.edge(ROW, """
                # none at all: none does, surely
                row 0 0 0 0 0 0 -> 1
                row 0 10 10 0 0 1 -> 1
                row 0 10 10 0 2 0 -> 0
                # the first with t, whatever u is
                row 1 3 0 1 0 0 -> 3
                row 1 3 0 1 0 1 -> 10
                row 1 3 10 1 0 0 -> 3
                # each one with t: 10 of 10, all do; with u behind one that did not
                row 10 10 0 10 0 0 -> 1
                row 10 10 0 9 0 0 -> 0
                row 10 0 0 0 0 0 -> 1
                row 10 0 10 5 0 0 -> 1
                row 9 0 10 4 0 0 -> 1
                row 9 0 10 5 0 0 -> 0
                # t 9 and u 0: who does not is followed by none that does
                row 2 9 0 2 0 0 -> 81
                row 2 9 0 2 0 1 -> 100
                row 2 9 0 1 0 0 -> 9
                row 2 9 0 1 0 1 -> 100
                row 2 9 0 0 0 0 -> 1
                row 2 9 0 0 0 1 -> 10
                # t 1 and u 10: just one of two is 1 by 9 and 9 by 10 tenths
                row 2 1 10 1 0 0 -> 99
                row 2 1 10 1 0 1 -> 100
                row 2 1 10 0 0 0 -> 0
                # all of ten with a tenth
                row 10 1 10 10 0 1 -> 10000000000
                row 10 9 0 10 0 0 -> 3486784401
                row 10 9 0 10 0 1 -> 10000000000
                """);
        Edges.edge(MANY, """
                # none at least is sure; all at least is just all; one at least is all but none
                row 3 2 7 0 1 0 -> 1
                row 3 2 7 0 1 1 -> 1
                row 3 2 7 3 1 0 -> 1
                row 3 2 7 3 1 1 -> 125
                row 3 2 7 3 0 0 -> 1
                row 3 2 7 3 0 1 -> 125
                # none: 8 by 3 by 3 of 1000
                row 3 2 7 0 0 0 -> 9
                row 3 2 7 0 0 1 -> 125
                row 3 2 7 1 1 0 -> 116
                row 3 2 7 1 1 1 -> 125
                # the second does with 2 by 2 and 8 by 7 of 100, the third with 60 by 2 and 40 by 7 of 1000
                row 3 2 7 0 2 0 -> 6
                row 3 2 7 0 2 1 -> 5
                row 3 2 7 3 2 0 -> 6
                row 10 10 0 0 2 0 -> 10
                row 10 0 0 10 2 0 -> 0
                row 10 0 0 10 2 1 -> 1
                row 0 3 3 0 1 0 -> 1
                row 0 3 3 0 1 1 -> 1
                """);
    }

    private static void rowRefused() {
        String sentence = "ROW: just k (what = 0), k at least (1), the mean (2; k is no matter, but as told). OUTSIDE.";
        for (String numbers : new String[] {"11 5 5 0 0 0", "-1 5 5 0 0 0", "10 11 5 0 0 0", "10 -1 5 0 0 0", "10 5 11 0 0 0",
            "10 5 -1 0 0 0", "10 5 5 11 0 0", "10 5 5 -1 0 0", "9 5 5 10 1 0", "0 5 5 1 0 0", "0 5 5 -1 0 0", "3 5 5 4 2 0", "3 5 5 -1 2 0",
            "3 5 5 0 3 0", "3 5 5 0 -1 0", "3 5 5 0 0 2", "3 5 5 0 0 -1", "MOST 5 5 0 0 0", "LEAST 5 5 0 0 0", "3 MOST 5 0 0 0",
            "3 LEAST 5 0 0 0", "3 5 MOST 0 0 0", "3 5 LEAST 0 0 0", "3 5 5 MOST 0 0", "3 5 5 LEAST 0 0", "3 5 5 0 MOST 0",
            "3 5 5 0 LEAST 0", "3 5 5 0 0 MOST", "3 5 5 0 0 LEAST"}) {
            Edges.edge(sentence, "row " + numbers + " -> GONE");
        }
        Edges.edge(sentence, """
                row 10 10 10 10 0 0 -> 1
                row 10 0 0 0 2 1 -> 1
                row 3 6 6 0 2 0 -> 9
                row 3 6 6 3 2 0 -> 9
                row 3 6 6 3 2 1 -> 5
                """);
    }

    private static void embers() {
        Edges.edge(FIRST, """
                embers 0 0 -> OUTSIDE
                embers 1 0 -> 0
                embers 1 1 -> NONE
                # of two he takes one, not both; of three one or two
                embers 2 0 -> 0
                embers 2 1 -> NONE
                embers 3 0 -> 0
                embers 3 1 -> NONE
                embers 60 0 -> 1
                embers 61 0 -> OUTSIDE
                """);
        Edges.edge("then each one at the least, twice as many as the other one just took at the most", """
                # of four one: three are left, and two the most, then one; of seven two: five are left, and four the most
                embers 4 1 -> 1
                embers 7 1 -> 2
                # of five: one leaves four, and one of these is taken; two leave three, and all of these
                embers 5 0 -> 0
                # of eleven three leave eight, and six the most
                embers 11 1 -> 3
                embers 9 1 -> 1
                embers 18 1 -> 5
                """);
        Edges.edge("who takes the last one has won; who can not take has lost", "embers 1 0 -> 0 \n embers 2 0 -> 0 \n embers 3 0 -> 0 \n"
                + "embers 4 0 -> 1 \n embers 6 0 -> 1 \n embers 6 1 -> 1");
        // who is to take of a number of the row 1 2 3 5 8 13 21 34 55 has lost; else the least part by that row is to be taken
        int[] lost = {55, 34, 21, 13, 8, 5, 3, 2, 1};
        StringBuilder all = new StringBuilder();
        for (int n = 1; n <= 60; n++) {
            int rest = n;
            int least = 0;
            for (int part : lost) {
                if (part <= rest) {
                    rest -= part;
                    least = part;
                }
            }
            all.append("embers " + n + " 0 -> " + (least == n ? 0 : 1) + "\n embers " + n + " 1 -> " + (least == n ? -6 : least) + "\n");
        }
        Edges.edge(WINS, all.toString());
        Edges.edge("EMBERS: whether (what = 0), how many (1; NONE). OUTSIDE.", """
                embers 60 1 -> 5
                embers 55 1 -> NONE
                embers 0 1 -> OUTSIDE
                embers -1 0 -> OUTSIDE
                embers 61 1 -> OUTSIDE
                embers MOST 0 -> OUTSIDE
                embers LEAST 1 -> OUTSIDE
                embers 1 2 -> OUTSIDE
                embers 60 -1 -> OUTSIDE
                embers 60 MOST -> OUTSIDE
                embers 60 LEAST -> OUTSIDE
                """);
    }

    private static void images() {
        String kept = "All but the PAD is kept in an IMAGE (0, 1): 1. OUTSIDE.";
        String again = "It is as it was when it was kept: 1. OUTSIDE; STATE: it was not.";
        String close = """
                road 10 9 4 -> 0
                house 9 2 1 -> 5
                tell 9 3 -> NONE
                fade 9 5 -> 9
                seen 40 7 -> 1
                pad .=98J
                done -> 3
                house 0 2 1 -> 5
                """;
        String[][] changes = {
            {"road 10 9 5 -> 4", "told 1209 -> 4 \n told 1190 -> 4"}, {"road 10 0 5 -> 0", "told 1010 -> 0 \n told 1200 -> 0"},
            {"house 9 3 1 -> 2", "told 191 -> 2"}, {"house 0 2 0 -> 2", "told 102 -> 1"}, {"tell 9 -1 -> 3", "told 190 -> 3"},
            {"tell 0 9 -> NONE", "told 100 -> NONE"}, {"fade 9 9 -> 5", "told 19 -> 5"}, {"fade 0 9 -> 0", "told 10 -> 0"},
            {"seen 0 7 -> 2", "told 5 -> 1 \n fits -1 -> 5"}, {"forget -> 1", "told 5 -> 1 \n fits -1 -> 5"},
            {"forget -> 1 \n seen 40 1 -> 1", "told 5 -> 1 \n fits 0 -> 71"}, {"pad k \n done -> 1", "told 1 -> 9 \n told 2 -> 76"},
            {"pad k=31 \n done -> 2", "told 3 -> 9 \n told 2 -> 76"}, {"pad . \n done -> 1", "told 4 -> 1 \n told 1 -> 9 \n told 102 -> 1"},
        };
        for (String[] change : changes) {
            for (int k = 0; k <= 1; k++) {
                Edges.edge(kept, close + "image " + k + " -> 1 \n" + change[0] + "\n restore " + k + " -> 1 \n" + change[1]
                        + "\n restore " + (1 - k) + " -> STATE");
            }
        }
        Edges.edge(kept, """
                # what the PAD is when it is kept and when it is as it was again is no matter
                pad =55
                image 0 -> 1
                image 1 -> 1
                told 0 -> 3
                wipe -> 3
                restore 0 -> 1
                told 0 -> 0
                pad ..*
                restore 1 -> 1
                told 0 -> 3
                judge 0 -> 2
                image 2 -> OUTSIDE
                image -1 -> OUTSIDE
                image MOST -> OUTSIDE
                image LEAST -> OUTSIDE
                """);
        // all eight SIGHTS, bed and TALE of each: in bed i of a ring of ten stands the TALE and i
        StringBuilder eight = new StringBuilder(Runs.chain() + "fade 9 0 -> 9 \n");
        for (int i = 0; i < 8; i++) {
            eight.append("seen " + (i + 1) + " " + (i + 1) + " -> " + (i + 1) + "\n");
        }
        StringBuilder none = new StringBuilder("forget -> 8 \n fits -1 -> 50 \n");
        for (int i = 0; i < 8; i++) {
            none.append("seen 0 9 -> " + (i + 1) + "\n");
        }
        Edges.edge(kept, eight + "fits -1 -> 1 \n fits 0 -> 1 \n image 0 -> 1 \n" + none + "fits 0 -> 91 \n restore 0 -> 1 \n"
                + "fits -1 -> 1 \n fits 0 -> 1 \n told 5 -> 8 \n seen 9 9 -> FULL");
        for (int i = 0; i < 8; i++) {
            // one of them is other than the rest: by its bed, by its TALE
            String rest = eight.toString();
            String one = "seen " + (i + 1) + " " + (i + 1) + " -> ";
            for (String wrong : new String[] {"seen " + (i + 2) + " " + (i + 1) + " -> ", "seen " + (i + 1) + " 0 -> "}) {
                Edges.edge(kept, rest.replace(one, wrong) + "fits -1 -> 0 \n image 1 -> 1 \n forget -> 8 \n" + rest.replaceAll("(?m)^fade.*$", "")
                        + "fits -1 -> 1 \n restore 1 -> 1 \n fits -1 -> 0");
            }
        }
        Edges.edge(again, """
                restore 0 -> STATE
                restore 1 -> STATE
                image 1 -> 1
                restore 0 -> STATE
                restore 1 -> 1
                image 0 -> 1
                restore 0 -> 1
                restore 2 -> OUTSIDE
                restore -1 -> OUTSIDE
                restore MOST -> OUTSIDE
                restore LEAST -> OUTSIDE
                # kept, kept again, and as often as it is asked for; what is done then does not touch what is kept
                house 4 1 0 -> 5
                image 0 -> 1
                house 4 2 0 -> 1
                restore 0 -> 1
                house 4 3 0 -> 1
                restore 0 -> 1
                told 141 -> 1
                restore 1 -> 1
                told 141 -> 5
                house 4 7 1 -> 5
                image 1 -> 1
                restore 0 -> 1
                told 141 -> 1
                told 142 -> 0
                restore 1 -> 1
                told 141 -> 7
                told 142 -> 1
                """);
    }

    private static void told() {
        Edges.edge(TOLD, """
                told 0 -> 0
                told 5 -> 0
                told 6 -> OUTSIDE
                told 9 -> OUTSIDE
                told 10 -> 0
                told 19 -> 9
                told 20 -> OUTSIDE
                told 99 -> OUTSIDE
                told 100 -> NONE
                told 101 -> 5
                told 102 -> 0
                told 103 -> OUTSIDE
                told 109 -> OUTSIDE
                told 190 -> NONE
                told 191 -> 5
                told 192 -> 0
                told 193 -> OUTSIDE
                told 199 -> OUTSIDE
                told 200 -> OUTSIDE
                told 201 -> OUTSIDE
                told 999 -> OUTSIDE
                told 1000 -> 0
                told 1010 -> 0
                told 1011 -> OUTSIDE
                told 1019 -> OUTSIDE
                told 1020 -> 0
                told 1200 -> 0
                told 1210 -> 0
                told 1211 -> OUTSIDE
                told 1219 -> OUTSIDE
                told 1220 -> OUTSIDE
                told 1230 -> OUTSIDE
                told -1 -> OUTSIDE
                told -2 -> OUTSIDE
                told -10 -> OUTSIDE
                told -99 -> OUTSIDE
                told MOST -> OUTSIDE
                told LEAST -> OUTSIDE
                """);
        Edges.edge(TOLD, """
                road 10 0 9 -> 0
                road 9 8 1 -> 0
                told 1200 -> 9
                told 1010 -> 9
                told 1188 -> 1
                told 1169 -> 1
                # of one and itself
                told 1210 -> 0
                told 1000 -> 0
                told 1189 -> 0
                tell 0 0 -> NONE
                tell 9 9 -> NONE
                told 100 -> 0
                told 190 -> 9
                house 9 0 1 -> 5
                told 191 -> 0
                told 192 -> 1
                fade 9 0 -> 9
                told 19 -> 0
                pad .=99A~
                told 0 -> 6
                told 1 -> 10
                told 2 -> 0
                told 3 -> 0
                told 4 -> 0
                # not what is behind the PAD, but what is so: HEAT 99, TALE 0
                done -> 4
                told 0 -> 0
                told 1 -> 0
                told 2 -> 91
                told 3 -> 0
                told 4 -> 1
                pad ~
                done -> 1
                told 2 -> 99
                seen 1 1 -> 1
                told 5 -> 1
                """);
    }
}
