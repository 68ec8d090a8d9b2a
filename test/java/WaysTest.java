/** Promises 15 to 18: ways, rounds, damp sheets, fading. */
public final class WaysTest {
    public static void main(String[] args) {
        near();
        rounds();
        keeps();
        fading();
        Runs.end();
    }

    private static void near() {
        Runs.run("promise 15", """
                near 0 1 0 -> NONE
                near 0 1 1 -> NONE
                near 0 0 0 -> 0
                near 0 0 1 -> NONE
                near 10 10 0 -> 0
                near 10 10 1 -> NONE
                road 0 1 9 -> 0
                near 0 1 0 -> 9
                near 0 1 1 -> 1
                # past two others it is shorter
                road 0 2 3 -> 0
                road 2 10 2 -> 0
                road 10 1 3 -> 0
                near 0 1 0 -> 8
                near 0 1 1 -> 2
                near 1 0 0 -> 8
                near 1 0 1 -> 10
                near 0 10 1 -> 2
                # as short straight on, and past the least
                road 0 1 8 -> 9
                near 0 1 1 -> 1
                near 1 0 1 -> 0
                near 0 0 0 -> 0
                road 0 1 1 -> 8
                near 0 1 0 -> 1
                near 0 1 1 -> 1
                near 3 0 0 -> NONE
                near 0 3 1 -> NONE
                """);
        Runs.run("promise 15, the longest way there is", """
                road 10 9 9 -> 0
                road 9 8 9 -> 0
                road 8 7 9 -> 0
                road 7 6 9 -> 0
                road 6 5 9 -> 0
                road 5 4 9 -> 0
                road 4 3 9 -> 0
                road 3 2 9 -> 0
                road 2 1 9 -> 0
                road 1 0 9 -> 0
                near 10 0 0 -> 90
                near 10 0 1 -> 9
                near 0 10 1 -> 1
                # as things are now: the PAD is no matter, DAMP HOUSES neither
                pad A=
                house 5 9 1 -> 5
                near 0 10 0 -> 90
                """);
        Runs.run("promise 15, refused", """
                near 11 0 0 -> UNKNOWN
                near 0 11 0 -> UNKNOWN
                near -1 0 0 -> UNKNOWN
                near 0 -1 0 -> UNKNOWN
                near 11 0 2 -> UNKNOWN
                near LEAST MOST 2 -> UNKNOWN
                near 0 1 2 -> OUTSIDE
                near 0 1 -1 -> OUTSIDE
                near 0 0 2 -> OUTSIDE
                near 0 1 MOST -> OUTSIDE
                """);
    }

    private static void rounds() {
        Runs.run("promise 16", """
                round 99 0 -> 0
                round 99 1 -> 0
                road 10 0 1 -> 0
                # DOUBT 5: above 45 when it is there
                round 46 0 -> 0
                round 47 0 -> 1
                round 47 1 -> 1
                house 0 5 1 -> 5
                round 99 0 -> 0
                # past a DAMP HOUSE
                road 0 9 2 -> 0
                round 99 1 -> 512
                round 49 1 -> 512
                round 48 1 -> 0
                # the PAN is filled anew: where it is, what it has are no matter
                pad =05A
                done -> 2
                round 48 1 -> 0
                round 49 1 -> 512
                pad =
                round 49 0 -> 1
                """);
        Runs.run("promise 16, which are the least", """
                road 10 0 9 -> 0
                road 10 1 9 -> 0
                road 10 2 9 -> 0
                house 0 0 0 -> 5
                house 1 0 0 -> 5
                house 2 0 0 -> 5
                # one of three: 10 is 1 behind the ROAD, and none is left
                round 9 1 -> 0
                round 10 0 -> 1
                round 10 1 -> 1
                # two: 5 for the bed, 18 for the ROADS between
                round 32 1 -> 1
                round 33 0 -> 2
                round 33 1 -> 3
                round 55 1 -> 3
                round 56 1 -> 7
                # it is no matter who BELIEVES already
                tell 0 3 -> NONE
                round 10 1 -> 1
                """);
        Runs.run("promise 16, those of great DOUBT are first", """
                road 10 0 1 -> 0
                road 10 1 1 -> 0
                road 0 1 1 -> 0
                house 0 1 0 -> 5
                house 1 9 0 -> 5
                # by way of J, not of A: 82 is above 81
                round 83 1 -> 3
                round 82 1 -> 1
                """);
        Runs.run("promise 16, the warmest order of them is what counts", """
                road 10 0 1 -> 0
                road 0 1 1 -> 0
                road 1 2 1 -> 0
                road 10 2 9 -> 0
                house 0 1 0 -> 5
                house 1 1 0 -> 5
                house 2 1 0 -> 5
                # 1 and 5 and 1 and 5 and 1: 10 is above 9
                round 23 1 -> 7
                round 22 1 -> 3
                """);
        Runs.run("promise 16, refused", """
                round 100 0 -> OUTSIDE
                round -1 0 -> OUTSIDE
                round 0 2 -> OUTSIDE
                round 0 -1 -> OUTSIDE
                round MOST LEAST -> OUTSIDE
                round LEAST 0 -> OUTSIDE
                round 0 0 -> 0
                """);
    }

    private static void keeps() {
        Runs.run("promise 17", """
                keep 0 0 -> 0
                keep 0 1 -> 0
                road 10 0 1 -> 0
                keep 0 0 -> NONE
                keep 0 1 -> NONE
                road 0 1 1 -> 0
                keep 1 0 -> 1
                keep 1 1 -> 1
                # those that are DAMP now are no matter
                house 0 5 1 -> 5
                keep 1 0 -> 1
                # of two that would do, the least
                road 1 2 1 -> 0
                keep 2 0 -> 1
                keep 2 1 -> 1
                # two ways
                road 10 9 4 -> 0
                road 9 2 4 -> 0
                keep 2 0 -> 2
                keep 2 1 -> 513
                # the told one itself is none of them, the KITCHEN neither
                keep 1 0 -> 2
                keep 1 1 -> 5
                keep 9 1 -> NONE
                keep 3 0 -> 0
                """);
        Runs.run("promise 17, fewer ahead of least", """
                road 10 0 1 -> 0
                road 10 1 1 -> 0
                road 10 2 1 -> 0
                road 0 8 1 -> 0
                road 1 8 1 -> 0
                road 2 8 1 -> 0
                road 8 9 1 -> 0
                keep 9 0 -> 1
                keep 9 1 -> 256
                keep 8 0 -> 3
                keep 8 1 -> 7
                keep 10 0 -> UNKNOWN
                keep -1 0 -> UNKNOWN
                keep 10 5 -> UNKNOWN
                keep MOST 0 -> UNKNOWN
                keep 9 2 -> OUTSIDE
                keep 9 -1 -> OUTSIDE
                keep 0 LEAST -> OUTSIDE
                """);
        StringBuilder wide = new StringBuilder();
        for (int house = 0; house < 9; house++) {
            wide.append("road 10 " + house + " 1 -> 0 \n road " + house + " 9 1 -> 0 \n");
        }
        Runs.run("promise 17, the most", wide + "keep 9 0 -> 9 \n keep 9 1 -> 511");
    }

    private static void fading() {
        Runs.run("promise 18", """
                faded 5 0 -> 5
                faded 5 99 -> 5
                faded 5 -1 -> 1
                faded 5 -2 -> 1
                fade 0 1 -> 0
                fade 1 2 -> 1
                fade 2 3 -> 2
                fade 3 4 -> 3
                fade 4 2 -> 4
                faded 0 0 -> 0
                faded 0 1 -> 1
                faded 0 4 -> 4
                faded 0 5 -> 2
                faded 0 98 -> 2
                faded 0 99 -> 3
                # 0 1 2 3 4 2: five stirs, three of them the ring
                faded 0 -1 -> 5
                faded 0 -2 -> 3
                faded 2 -1 -> 3
                faded 2 -2 -> 3
                """);
        Runs.run("promise 18, the longest ring and the longest way into one", Runs.chain() + """
                faded 0 -1 -> 10
                faded 0 -2 -> 1
                fade 9 0 -> 9
                faded 0 -1 -> 10
                faded 0 -2 -> 10
                faded 3 99 -> 2
                """);
        Runs.run("promise 18, refused", """
                faded 10 0 -> UNKNOWN
                faded -1 0 -> UNKNOWN
                faded MOST 100 -> UNKNOWN
                faded 0 100 -> OUTSIDE
                faded 0 -3 -> OUTSIDE
                faded 0 LEAST -> OUTSIDE
                faded 0 MOST -> OUTSIDE
                """);
    }
}
