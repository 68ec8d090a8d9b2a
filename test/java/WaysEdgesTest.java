/** The sentences that name a boundary: Terms 3, promises 15 to 18. */
public final class WaysEdgesTest {
    private static final String NEAR = "NEAR: from a PLACE to another one the least that ROADS are LONG together: how much (0: it is that)";
    private static final String NEXT = "the PLACE next to the first on such a way, the least (NONE: it is that); NONE.";
    private static final String FILLED = "the PAN, filled anew with HEAT h (0 to 99) in the KITCHEN, not stirred";
    private static final String PAST = "goes by the least ROADS from bed to bed (past other HOUSES, DAMP ones, too)";
    private static final String THEN = "and BELIEVE then (by HEAT ahead of the bed, DOUBT of now)";
    private static final String MOST = "the most beds; HOUSES, least as bits of as many.";
    private static final String FEWEST = "the fewest HOUSES, others than a told one, that should be DAMP so that no way leads from the KITCHEN"
            + " to that one but through some that are (those that are now are no matter)";
    private static final String WHICH = "how many; which, least as bits of as few; NONE (a ROAD leads from the KITCHEN to it).";

    public static void main(String[] args) {
        asThingsAre();
        near();
        next();
        filledAnew();
        bedToBed();
        believing();
        mostBeds();
        keep();
        fading();
        promises();
        Runs.end();
    }

    private static void asThingsAre() {
        Edges.edge("(As things are now.)", """
                road 10 0 2 -> 0
                road 0 1 3 -> 0
                house 0 4 0 -> 5
                fade 3 4 -> 3
                # what is on the PAD is no matter, whether it can be or not: behind it A doubts more, and the PAN is away
                pad =31A*
                near 10 1 0 -> 5
                round 39 1 -> 1
                keep 1 1 -> 1
                faded 3 1 -> 4
                pad =
                near 10 1 1 -> 0
                round 39 0 -> 1
                keep 1 0 -> 1
                faded 3 -2 -> 1
                pad *
                round 39 0 -> 1
                # what is DONE is as it is now
                pad =31A*
                done -> 3
                round 39 0 -> 0
                round 48 1 -> 1
                # and so is a ROAD that is none any more
                road 10 0 0 -> 2
                near 10 1 0 -> NONE
                keep 1 0 -> 0
                round 99 0 -> 0
                """);
    }

    private static void near() {
        Edges.edge(NEAR, """
                near 4 4 0 -> 0
                near 10 10 0 -> 0
                near 4 10 0 -> NONE
                road 4 10 9 -> 0
                near 4 10 0 -> 9
                near 10 4 0 -> 9
                near 4 4 0 -> 0
                # as LONG past another one, then shorter past it, then shorter straight on
                road 4 9 4 -> 0
                road 9 10 5 -> 0
                near 4 10 0 -> 9
                road 9 10 4 -> 5
                near 4 10 0 -> 8
                road 4 10 1 -> 9
                near 4 10 0 -> 1
                near 4 9 0 -> 4
                near 10 9 0 -> 4
                road 4 9 6 -> 4
                near 4 9 0 -> 5
                """);
        Edges.edge(NEAR, chainOfAll() + """
                near 10 0 0 -> 90
                near 0 10 0 -> 90
                near 10 9 0 -> 9
                near 5 5 0 -> 0
                road 5 0 1 -> 0
                near 10 0 0 -> 46
                """);
    }

    /** KITCHEN, J, I and so on to A, each ROAD LONG by 9. */
    private static String chainOfAll() {
        StringBuilder rows = new StringBuilder();
        for (int place = 10; place > 0; place--) {
            rows.append("road " + place + " " + (place - 1) + " 9 -> 0 \n");
        }
        return rows.toString();
    }

    private static void next() {
        Edges.edge(NEXT, """
                near 4 4 1 -> NONE
                near 10 10 1 -> NONE
                near 4 10 1 -> NONE
                road 4 10 8 -> 0
                # the last PLACE is the next one
                near 4 10 1 -> 10
                near 10 4 1 -> 4
                # of three ways as LONG: 3 and 9 and straight on
                road 4 9 4 -> 0
                road 9 10 4 -> 0
                near 4 10 1 -> 9
                road 4 3 1 -> 0
                road 3 10 7 -> 0
                near 4 10 1 -> 3
                near 10 4 1 -> 3
                # the least of those on such a way, not of all PLACES a ROAD leads to
                road 4 0 1 -> 0
                near 4 10 1 -> 3
                road 0 10 8 -> 0
                near 4 10 1 -> 3
                road 0 10 7 -> 8
                near 4 10 1 -> 0
                # next to the first one, not to the last one
                near 10 4 0 -> 8
                near 10 4 1 -> 0
                near 9 0 1 -> 4
                near 4 4 1 -> NONE
                near 4 8 1 -> NONE
                near 8 4 1 -> NONE
                """);
        Edges.edge(NEXT, chainOfAll() + "near 10 0 1 -> 9 \n near 0 10 1 -> 1 \n near 5 5 1 -> NONE \n near 5 0 1 -> 4");
    }

    private static void filledAnew() {
        Edges.edge(FILLED, """
                road 10 0 1 -> 0
                road 0 1 2 -> 0
                house 0 0 0 -> 5
                house 1 9 0 -> 5
                round 0 0 -> 0
                round 0 1 -> 0
                # HEAT 0 behind the ROAD, and 1
                round 1 0 -> 0
                round 2 0 -> 1
                round 2 1 -> 1
                round 99 0 -> 2
                round 100 0 -> OUTSIDE
                round -1 0 -> OUTSIDE
                # wherever the PAN is, however hot, whatever it carries, and whoever BELIEVES
                pad =39B
                judge 1 -> 2
                pad =39A
                done -> 2
                tell 0 3 -> NONE
                round 2 1 -> 1
                round 1 1 -> 0
                pad k.
                done -> 2
                round 2 1 -> 1
                """);
        Edges.edge(FILLED, """
                # not stirred: 95 is left for A only
                road 10 0 4 -> 0
                road 0 1 9 -> 0
                house 0 9 0 -> 5
                house 1 9 0 -> 5
                round 99 0 -> 1
                round 95 0 -> 1
                round 86 1 -> 1
                round 85 1 -> 0
                """);
    }

    private static void bedToBed() {
        Edges.edge(PAST, """
                road 10 0 2 -> 0
                road 0 1 2 -> 0
                road 10 1 9 -> 0
                house 0 9 0 -> 5
                house 1 0 0 -> 5
                # past A, which is passed by: 4, not 9
                round 5 1 -> 2
                round 4 1 -> 0
                house 0 9 1 -> 9
                round 5 1 -> 2
                round 4 1 -> 0
                road 0 1 0 -> 2
                round 10 1 -> 2
                round 9 1 -> 0
                """);
        Edges.edge(PAST, """
                # from A to B past the KITCHEN: 1 and 5 and 2 leave 1 of 9
                road 10 0 1 -> 0
                road 10 1 1 -> 0
                house 0 0 0 -> 5
                house 1 0 0 -> 5
                round 9 1 -> 3
                round 8 1 -> 1
                """);
        Edges.edge(PAST, """
                # past a bed that was warmed already: A must be first, B and C are behind it
                road 10 0 1 -> 0
                road 0 1 1 -> 0
                road 0 2 7 -> 0
                house 0 2 0 -> 5
                house 1 0 0 -> 5
                house 2 0 0 -> 5
                round 20 1 -> 3
                round 21 1 -> 7
                """);
        Edges.edge(PAST, """
                # A behind B: B first leaves 1 ahead of A of 8; A first would leave none ahead of B
                road 10 1 1 -> 0
                road 1 0 1 -> 0
                house 0 0 0 -> 5
                house 1 0 0 -> 5
                round 8 1 -> 3
                round 7 1 -> 1
                """);
        Edges.edge("each HOUSE once at the most", """
                road 10 9 1 -> 0
                house 9 0 0 -> 5
                round 99 0 -> 1
                round 99 1 -> 512
                road 9 8 1 -> 0
                house 8 0 0 -> 5
                round 99 0 -> 2
                round 99 1 -> 768
                """);
        Edges.edge("HOUSES that are not DAMP", """
                road 10 0 1 -> 0
                road 0 1 1 -> 0
                house 0 0 1 -> 5
                house 1 0 1 -> 5
                round 99 0 -> 0
                round 99 1 -> 0
                house 1 0 0 -> 0
                round 99 1 -> 2
                # a DAMP HOUSE that is passed takes no HEAT but the ROADS
                round 3 1 -> 2
                round 2 1 -> 0
                house 0 0 0 -> 0
                round 99 1 -> 3
                """);
    }

    private static void believing() {
        for (int doubt = 0; doubt <= 9; doubt++) {
            int least = 9 * doubt + 1;
            Edges.edge(THEN, "road 10 7 1 -> 0 \n house 7 " + doubt + " 0 -> 5 \n round " + (least + 1) + " 1 -> 128 \n round " + least
                    + " 1 -> 0");
        }
        Edges.edge(THEN, """
                # 5 less for each bed: 1 and 5 and 1 leave 45 of 52, 46 of 53
                road 10 0 1 -> 0
                road 0 1 1 -> 0
                round 52 1 -> 1
                round 53 1 -> 3
                # DOUBT of now: not what it is behind the PAD
                pad =01A*
                behind 0 1 -> 6
                round 53 1 -> 3
                done -> 3
                round 53 1 -> 2
                round 55 1 -> 2
                round 56 1 -> 3
                """);
        Edges.edge(THEN, """
                # 0 at least: behind A there is no HEAT, and none ahead of B
                road 10 0 1 -> 0
                road 0 1 1 -> 0
                house 0 0 0 -> 5
                house 1 0 0 -> 5
                round 3 0 -> 1
                round 6 0 -> 1
                round 7 0 -> 1
                round 8 0 -> 2
                """);
    }

    private static void mostBeds() {
        Edges.edge(MOST, """
                # I and J are more than A, though A is least as bits
                road 10 0 9 -> 0
                road 10 9 1 -> 0
                road 9 8 1 -> 0
                house 0 0 0 -> 5
                house 8 0 0 -> 5
                house 9 0 0 -> 5
                round 10 0 -> 2
                round 10 1 -> 768
                # one of two
                round 2 1 -> 512
                round 3 1 -> 256
                """);
        Edges.edge(MOST, """
                # two of four, as warm: A and D, B and C: 9 and 6
                road 10 0 1 -> 0
                road 0 3 1 -> 0
                road 10 1 1 -> 0
                road 1 2 1 -> 0
                house 0 0 0 -> 5
                house 1 0 0 -> 5
                house 2 0 0 -> 5
                house 3 0 0 -> 5
                road 0 1 9 -> 0
                road 2 3 9 -> 0
                round 8 0 -> 2
                round 8 1 -> 6
                # at 9 A and B are two as well, past the KITCHEN
                round 9 1 -> 3
                """);
        StringBuilder all = new StringBuilder();
        for (int house = 0; house < 10; house++) {
            all.append("road " + (house == 0 ? 10 : house - 1) + " " + house + " 1 -> 0 \n house " + house + " 0 0 -> 5 \n");
        }
        // ten ROADS and nine beds ahead of the last one: 56
        Edges.edge(MOST, "round 99 0 -> 0 \n round 99 1 -> 0 \n" + all + "round 56 0 -> 10 \n round 56 1 -> 1023 \n round 55 0 -> 9 \n"
                + "round 55 1 -> 511 \n round 99 1 -> 1023");
    }

    private static void keep() {
        Edges.edge(FEWEST, """
                # no way leads there: none is needed
                keep 9 0 -> 0
                keep 9 1 -> 0
                road 10 0 1 -> 0
                road 0 9 1 -> 0
                keep 9 0 -> 1
                keep 9 1 -> 1
                # those that are DAMP now are no matter, the told one neither
                house 0 5 1 -> 5
                keep 9 0 -> 1
                keep 9 1 -> 1
                house 9 5 1 -> 5
                keep 9 1 -> 1
                # others than the told one: two ways are two HOUSES, not J itself
                road 10 1 9 -> 0
                road 1 9 9 -> 0
                keep 9 0 -> 2
                keep 9 1 -> 3
                # one more beyond: J alone is fewer than A and B
                road 9 4 1 -> 0
                keep 4 0 -> 1
                keep 4 1 -> 512
                # a way that leads from it leads not to it
                road 4 2 1 -> 0
                keep 4 1 -> 512
                keep 9 1 -> 3
                # a way there past the KITCHEN is one that begins there
                keep 0 0 -> NONE
                """);
        Edges.edge(WHICH, """
                # C, then B, then A, then J: each one would do, the least is A
                road 10 2 1 -> 0
                road 2 1 1 -> 0
                road 1 0 1 -> 0
                road 0 9 1 -> 0
                keep 9 0 -> 1
                keep 9 1 -> 1
                keep 0 1 -> 2
                keep 1 1 -> 4
                keep 2 0 -> NONE
                keep 2 1 -> NONE
                # two: one of C, B, A and one of E, D
                road 10 4 1 -> 0
                road 4 3 1 -> 0
                road 3 9 1 -> 0
                keep 9 0 -> 2
                keep 9 1 -> 9
                # a ROAD from the KITCHEN: none can keep it from J
                road 10 9 9 -> 0
                keep 9 0 -> NONE
                keep 9 1 -> NONE
                road 10 9 0 -> 9
                keep 9 1 -> 9
                """);
        StringBuilder wide = new StringBuilder();
        for (int house = 1; house < 10; house++) {
            wide.append("road 10 " + house + " 1 -> 0 \n road " + house + " 0 1 -> 0 \n keep 0 0 -> " + house + "\n keep 0 1 -> "
                    + ((1 << house + 1) - 2) + "\n");
        }
        Edges.edge(WHICH, wide + "road 10 0 9 -> 0 \n keep 0 0 -> NONE");
    }

    private static void fading() {
        String chain = Runs.chain();
        Edges.edge("FADED: the TALE behind n (0 to 99) stirs", chain + """
                fade 9 7 -> 9
                faded 0 0 -> 0
                faded 0 1 -> 1
                faded 0 9 -> 9
                faded 0 10 -> 7
                faded 0 98 -> 8
                faded 0 99 -> 9
                faded 9 99 -> 9
                faded 8 99 -> 8
                faded 0 100 -> OUTSIDE
                """);
        Edges.edge("behind how many stirs (the first) a TALE comes that came before", chain + """
                # 9 fades into itself
                faded 9 -1 -> 1
                faded 8 -1 -> 2
                faded 0 -1 -> 10
                fade 9 0 -> 9
                faded 0 -1 -> 10
                faded 5 -1 -> 10
                fade 9 8 -> 0
                faded 0 -1 -> 10
                faded 8 -1 -> 2
                faded 9 -1 -> 2
                faded 7 -1 -> 3
                """);
        Edges.edge("how many stirs are between the two.", chain + """
                faded 9 -2 -> 1
                faded 0 -2 -> 1
                fade 9 0 -> 9
                faded 0 -2 -> 10
                faded 5 -2 -> 10
                fade 9 8 -> 0
                # how long the way into the ring is is no matter
                faded 0 -2 -> 2
                faded 8 -2 -> 2
                faded 9 -2 -> 2
                fade 9 7 -> 8
                faded 0 -2 -> 3
                """);
    }

    private static void promises() {
        Edges.edge("NEAR: how much (what = 0), the PLACE (1); NONE. UNKNOWN: both; OUTSIDE.", """
                near 0 10 0 -> NONE
                near 0 10 1 -> NONE
                near 0 11 0 -> UNKNOWN
                near 11 0 1 -> UNKNOWN
                near 11 11 0 -> UNKNOWN
                near -1 -1 1 -> UNKNOWN
                near MOST 0 0 -> UNKNOWN
                near 0 LEAST 0 -> UNKNOWN
                near 0 10 2 -> OUTSIDE
                near 0 0 -1 -> OUTSIDE
                near 0 0 MOST -> OUTSIDE
                near 0 0 LEAST -> OUTSIDE
                """);
        Edges.edge("ROUND: beds (what = 0), HOUSES (1). OUTSIDE.", """
                round 0 0 -> 0
                round 99 1 -> 0
                round 100 1 -> OUTSIDE
                round -1 1 -> OUTSIDE
                round 0 2 -> OUTSIDE
                round 99 -1 -> OUTSIDE
                round MOST 0 -> OUTSIDE
                round LEAST 0 -> OUTSIDE
                round 5 MOST -> OUTSIDE
                round 5 LEAST -> OUTSIDE
                """);
        Edges.edge("KEEP: how many (what = 0), which (1); NONE. UNKNOWN; OUTSIDE.", """
                keep 9 0 -> 0
                keep 9 1 -> 0
                keep 10 0 -> UNKNOWN
                keep -1 1 -> UNKNOWN
                keep MOST 0 -> UNKNOWN
                keep LEAST 2 -> UNKNOWN
                keep 9 2 -> OUTSIDE
                keep 9 -1 -> OUTSIDE
                keep 9 MOST -> OUTSIDE
                keep 9 LEAST -> OUTSIDE
                road 10 9 1 -> 0
                keep 9 0 -> NONE
                keep 9 2 -> OUTSIDE
                """);
        Edges.edge("FADED: the TALE behind n stirs (n 0 to 99); behind how many (n = -1), between the two (n = -2). UNKNOWN; OUTSIDE.", """
                fade 9 0 -> 9
                faded 9 0 -> 9
                faded 9 99 -> 0
                faded 9 -1 -> 2
                faded 9 -2 -> 1
                faded 9 100 -> OUTSIDE
                faded 9 -3 -> OUTSIDE
                faded 9 MOST -> OUTSIDE
                faded 9 LEAST -> OUTSIDE
                faded 10 0 -> UNKNOWN
                faded -1 -1 -> UNKNOWN
                faded MOST 0 -> UNKNOWN
                faded LEAST 0 -> UNKNOWN
                """);
    }
}
