/** The sentences that name a boundary: Terms 2, promises 9 to 14. */
public final class NightsEdgesTest {
    /** KITCHEN to A 1, A to B 9, KITCHEN to J 9; TALE 2 fades into 7. */
    private static final String CLOSE = """
            road 10 0 1 -> 0
            road 0 1 9 -> 0
            road 10 9 9 -> 0
            fade 2 7 -> 2
            """;

    public static void main(String[] args) {
        judged();
        beds();
        behind();
        pan();
        holds();
        other();
        done();
        promises();
        Runs.end();
    }

    private static void edge(String sentence, String rows) {
        Edges.edge(sentence, CLOSE + rows);
    }

    private static void judged() {
        String sentence = "JUDGED: the first ACT (from 0 on) that can not be, why; how often it was put into a bed.";
        edge(sentence, """
                # the first of all, the last of all
                pad *=11A*
                judge 0 -> 0
                judge 1 -> 1
                pad =11A=11
                judge 0 -> 2
                judge 1 -> 1
                # of two that can not be the first
                pad =11C*
                judge 0 -> 1
                judge 1 -> 2
                pad ~*C
                judge 0 -> 0
                judge 1 -> 3
                # three signs are one ACT
                pad =11=22=33~.~
                judge 0 -> 5
                judge 1 -> 3
                # what could be by itself is not asked behind it
                pad =11C=11A*
                judge 0 -> 1
                judge 2 -> STATE
                # each can be, none is there
                pad =11A
                judge 0 -> NONE
                judge 1 -> NONE
                wipe -> 4
                judge 0 -> NONE
                judge 1 -> NONE
                """);
        edge(sentence, "pad " + ".".repeat(59) + "~\n judge 0 -> 59 \n judge 1 -> 3");
        edge(sentence, "pad =19A" + "k.=19A".repeat(9) + "\n judge 0 -> NONE \n say 107 -> 59 \n say 42 -> 60 \n judge 0 -> 39 \n"
                + "judge 1 -> 1");
    }

    private static void beds() {
        String sentence = "how often it was put into a bed.";
        edge(sentence, """
                judge 2 -> 0
                pad =19A~
                judge 2 -> 0
                pad =19A*
                judge 2 -> 1
                # the same bed again, and another one
                pad =19A**B*
                judge 2 -> 3
                # DAMP ones, and those that make nobody BELIEVE
                house 0 9 1 -> 5
                judge 2 -> 3
                house 0 9 0 -> 9
                judge 2 -> 3
                # one that can not be is told by none of the three ways
                pad =19A*C
                judge 2 -> STATE
                judge 0 -> 3
                """);
        edge(sentence, "house 0 0 0 -> 5 \n pad =19A*******.=19A" + "*".repeat(15) + ".=19A" + "*".repeat(15)
                + "\n judge 2 -> 37 \n say 42 -> 52 \n judge 2 -> 38");
    }

    private static void behind() {
        edge("BEHIND: of a HOUSE what it BELIEVES (NONE), DOUBT, whether LINEN is DAMP (1, 0).", """
                house 1 9 1 -> 5
                house 9 9 1 -> 5
                tell 1 0 -> NONE
                behind 0 0 -> NONE
                behind 0 1 -> 5
                behind 0 2 -> 0
                behind 1 0 -> 0
                behind 1 1 -> 9
                behind 1 2 -> 1
                behind 9 0 -> NONE
                pad =09A*
                # TALE 0 is one
                behind 0 0 -> 0
                told 100 -> NONE
                pad =01A*.
                behind 0 0 -> NONE
                behind 0 1 -> 6
                behind 1 2 -> 0
                behind 9 2 -> 0
                told 101 -> 5
                told 112 -> 1
                # what was DONE is so from then on
                done -> 4
                behind 0 1 -> 6
                behind 9 2 -> 0
                """);
    }

    private static void pan() {
        edge("PAN: its PLACE, HEAT, TALE, mornings in all.", """
                pan 0 -> 10
                pan 1 -> 0
                pan 2 -> 0
                pan 3 -> 0
                pad =99J
                pan 0 -> 9
                pan 1 -> 81
                pan 2 -> 9
                pan 3 -> 0
                pad =25~.A
                pan 0 -> 0
                pan 1 -> 0
                pan 2 -> 7
                pan 3 -> 1
                done -> 4
                # mornings in all: those DONE already and those on the PAD
                pad ..
                pan 3 -> 3
                pan 2 -> 7
                told 4 -> 1
                """);
    }

    private static void holds() {
        StringBuilder all = new StringBuilder();
        for (int house = 0; house < 10; house++) {
            all.append("tell " + house + " 9 -> NONE \n holds 9 -> " + ((2 << house) - 1) + "\n");
        }
        edge("HOLDS: HOUSES that BELIEVE a TALE, as bits.", all + """
                holds 0 -> 0
                pad =09A*
                holds 9 -> 1022
                holds 0 -> 1
                pad =01A*
                holds 9 -> 1023
                holds 0 -> 0
                """);
    }

    private static void other() {
        edge("OTHER: the first ACT by which a HOUSE BELIEVES another TALE than ahead of it (or one, having had none); which HOUSE; NONE.",
                """
                house 0 0 0 -> 5
                house 1 0 0 -> 5
                # no ACT, no bed, a bed that makes nobody BELIEVE
                other 0 -> NONE
                other 1 -> NONE
                pad =09A.
                other 0 -> NONE
                other 1 -> NONE
                pad =01J*
                judge 2 -> 1
                other 0 -> NONE
                other 1 -> NONE
                # having had none: TALE 0 is one
                pad =09A*
                other 0 -> 2
                other 1 -> 0
                # the first of two
                pad =09AB*A*
                other 0 -> 3
                other 1 -> 1
                # the same as ahead of it, then another one
                tell 0 2 -> NONE
                pad =29A**
                other 0 -> NONE
                other 1 -> NONE
                pad =29A**~*
                other 0 -> 5
                other 1 -> 0
                pad =29A**B*
                other 0 -> 5
                other 1 -> 1
                # another one and back again: still the first
                pad =79A*k=29A*
                other 0 -> 2
                other 1 -> 0
                # ahead of the ACT, not ahead of the NIGHTS
                tell 1 2 -> NONE
                pad =79A*
                done -> 3
                pad k=79A*
                other 0 -> NONE
                pad k=29A*
                other 0 -> 3
                """);
    }

    private static void done() {
        edge("DONE: it is so then.", """
                house 0 4 0 -> 5
                house 9 6 1 -> 5
                tell 9 1 -> NONE
                pad =29A*~B*
                done -> 6
                told 1 -> 1
                told 2 -> 80
                told 3 -> 7
                told 4 -> 0
                told 100 -> 2
                told 110 -> 7
                told 101 -> 4
                told 192 -> 1
                told 190 -> 1
                told 191 -> 6
                # the next ones go on from there; ROADS, what fades, and SIGHTS stay
                pad A*.
                done -> 3
                told 100 -> 7
                told 192 -> 0
                told 1 -> 10
                told 2 -> 0
                told 4 -> 1
                told 1010 -> 1
                told 12 -> 7
                """);
        edge("(the PAD is empty then)", """
                pad =29A
                done -> 2
                told 0 -> 0
                wipe -> 0
                fault -> NONE
                done -> 0
                told 1 -> 0
                told 2 -> 89
                say 33 -> 1
                fault -> 0
                """);
        edge("NIGHTS are DONE (the PAD is empty then): ACTS. NO, STATE, likewise.", """
                done -> 0
                pad =11=12=13
                done -> 3
                pad .
                done -> 1
                pad *
                done -> STATE
                told 0 -> 1
                pad .*
                done -> STATE
                told 0 -> 2
                told 4 -> 1
                pad .=1
                done -> NO
                told 0 -> 3
                told 4 -> 1
                say 49 -> 4
                done -> 2
                told 4 -> 2
                """);
        edge("NIGHTS are DONE (the PAD is empty then): ACTS. NO, STATE, likewise.", "pad " + ".".repeat(60) + "\n done -> 60 \n"
                + "told 0 -> 0 \n pad " + ".".repeat(40) + "\n done -> STATE \n told 0 -> 40 \n told 4 -> 60");
    }

    private static void promises() {
        String[][] calls = {
            {"JUDGED: the ACT (what = 0), why (1), beds (2); NONE. OUTSIDE; NO: there is a FAULT; STATE (2): some ACT can not be.",
                "judge #", "2", ""},
            {"BEHIND: BELIEVES (what = 0; NONE), DOUBT (1), DAMP (2). UNKNOWN; OUTSIDE; NO, STATE, as of judge(2).", "behind 9 #", "2",
                "behind #H 0"},
            {"PAN: PLACE (what = 0), HEAT (1), TALE (2), mornings (3). OUTSIDE; NO, STATE, likewise.", "pan #", "3", ""},
            {"HOLDS, as bits. UNKNOWN; NO, STATE, likewise.", "holds 9", "", "holds #H"},
            {"OTHER: the ACT (what = 0), the HOUSE (1); NONE. OUTSIDE; NO, STATE, likewise.", "other #", "1", ""},
            {"NIGHTS are DONE (the PAD is empty then): ACTS. NO, STATE, likewise.", "done", "", ""},
        };
        for (String[] call : calls) {
            if (!call[2].isEmpty()) {
                outsideOnes(call[0], call[1], Integer.parseInt(call[2]));
            }
            if (!call[3].isEmpty()) {
                for (String no : new String[] {"10", "-1", "11", "-6", "MOST", "LEAST"}) {
                    edge(call[0], call[3].replace("#H", no) + " -> UNKNOWN");
                }
            }
            boolean judge = call[1].startsWith("judge");
            int most = call[2].isEmpty() ? 0 : Integer.parseInt(call[2]);
            for (int what = 0; what <= most; what++) {
                String asked = call[1].replace("#", "" + what);
                for (String fault : new String[] {"=", ".=9", "!", "..A=90", ".*=", "=19AK"}) {
                    edge(call[0], "pad " + fault + "\n" + asked + " -> NO");
                }
                for (String stuck : new String[] {"*", ".~", "=11A*AA", "=19J=11"}) {
                    edge(call[0], "pad " + stuck + "\n" + asked + " -> " + (judge && what < 2 ? placeOrWhy(stuck, what) : "STATE"));
                }
            }
        }
    }

    private static String placeOrWhy(String stuck, int what) {
        switch (stuck) {
            case "*": return what == 0 ? "0" : "1";
            case ".~": return what == 0 ? "1" : "3";
            case "=11A*AA": return what == 0 ? "3" : "2";
            default: return what == 0 ? "2" : "1";
        }
    }

    private static void outsideOnes(String sentence, String call, int most) {
        for (String what : new String[] {"-1", "" + (most + 1), "-6", "MOST", "LEAST"}) {
            for (String pad : new String[] {"=19A*", "*", "="}) {
                edge(sentence, "pad " + pad + "\n" + call.replace("#", what) + " -> OUTSIDE");
            }
        }
    }
}
