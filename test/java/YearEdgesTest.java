import java.util.regex.Matcher;
import java.util.regex.Pattern;

/** The sentences that name a boundary: the YEAR of Terms 4, promise 25. */
public final class YearEdgesTest {
    private static final String FROM = "A YEAR by a seed (0 to 9999) of m ACTS (1 to 99), from all as it is";
    private static final String DRAWS = "x, the seed at first, becomes (75 x and 74) left over by 65537";
    private static final String CARRIED = "0, 1, 2 the PAN is carried to PLACE x by 8 (cut) left over by 11";
    private static final String BED = "3, 4 it is put into the bed";
    private static final String STIRRED = "5 it is stirred";
    private static final String FILLED = "6 it is filled with TALE x by 8 (cut) left over by 10, HEAT 10 times (1, and x by 80 (cut) left over"
            + " by 9, added)";
    private static final String MORNING = "7 it is morning";
    private static final String CAN_BE = "each if that can be";
    private static final String TOLD = "how many HOUSES BELIEVE one; how many TALES are believed by some; how much DOUBT all have together.";

    /** The draws of each seed as a text: 0to10 a way to the KITCHEN by 0, 3* a bed by 3, 5~, 6=75, 7. */
    private static final String[] YEARS = new String[10000];

    public static void main(String[] args) {
        for (int seed = 0; seed < YEARS.length; seed++) {
            YEARS[seed] = drawn(seed);
        }
        draws();
        carried();
        kitchen();
        beds();
        stirred();
        filled();
        morning();
        canBe();
        from();
        ninetyNine();
        told();
        refused();
        Runs.end();
    }

    private static String drawn(int seed) {
        StringBuilder text = new StringBuilder();
        long x = seed;
        for (int i = 0; i < 99; i++) {
            x = (75 * x + 74) % 65537;
            long by = x % 8;
            text.append(by);
            if (by < 3) {
                text.append("to").append(x / 8 % 11);
            } else {
                text.append(by < 5 ? "*" : by == 5 ? "~" : by == 6 ? "=" + x / 8 % 10 + (1 + x / 80 % 9) : ".");
            }
            text.append(' ');
        }
        return text.toString();
    }

    /** The first seed, or the last one, whose draws begin so. */
    private static int seed(String draws, boolean first) {
        Pattern begins = Pattern.compile(draws);
        for (int i = 0; i < YEARS.length; i++) {
            int seed = first ? i : YEARS.length - 1 - i;
            if (begins.matcher(YEARS[seed]).lookingAt()) {
                return seed;
            }
        }
        Runs.due("a seed", draws, 0, 1);
        return 0;
    }

    private static boolean isDrawn(String draws) {
        Pattern begins = Pattern.compile(draws);
        for (String year : YEARS) {
            if (begins.matcher(year).lookingAt()) {
                return true;
            }
        }
        return false;
    }

    private static int seed(String draws) {
        return seed(draws, true);
    }

    private static void draws() {
        // told by hand: 0 becomes 74, which is 9 by 8 and 2 left over
        Edges.edge(DRAWS, """
                road 10 9 1 -> 0
                house 9 0 0 -> 5
                pad =99
                done -> 1
                year 0 1 0 -> 0
                year 0 2 0 -> 0
                """);
        Runs.due(DRAWS, "74: 2 left over by 8, PLACE 9; then 75 times 74 and 74: 5624, 0 left over, 703 by 11 leaves 10",
                YEARS[0].startsWith("2to9 0to10 ") ? 1 : 0, 1);
        // 9999: 749999 left over by 65537 is 29092: 4 left over by 8
        Runs.due(DRAWS, "9999 begins with a bed by 4", YEARS[9999].startsWith("4* ") ? 1 : 0, 1);
        Edges.edge(DRAWS, "road 10 0 1 -> 0 \n house 0 0 0 -> 5 \n pad =99A \n done -> 2 \n year 9999 1 0 -> 1");
    }

    private static void carried() {
        for (int by = 0; by <= 2; by++) {
            for (int place = 0; place <= 9; place++) {
                carriedTo(by, place, true);
                carriedTo(by, place, false);
            }
        }
    }

    /** Beds in the KITCHEN and ways without a ROAD, which can not be, may be drawn ahead of it: not all twos are drawn at once. */
    private static void carriedTo(int by, int place, boolean first) {
        int ahead = 0;
        while (ahead < 9 && !isDrawn(hindered(ahead, place) + by + "to" + place + " [34]\\*")) {
            ahead++;
        }
        String year = "year " + seed(hindered(ahead, place) + by + "to" + place + " [34]\\*", first) + " ";
        String carried = year + (ahead + 1);
        String bed = year + (ahead + 2);
        // HEAT 30 less 2 is above 27, less 3 is not
        String close = "house " + place + " 3 0 -> 5 \n pad =93 \n done -> 1 \n";
        Edges.edge(CARRIED, "road 10 " + place + " 2 -> 0 \n" + close + carried + " 0 -> 0 \n" + bed + " 0 -> 1 \n" + bed + " 2 -> 48");
        Edges.edge(CARRIED, "road 10 " + place + " 3 -> 0 \n" + close + carried + " 2 -> 48 \n" + bed + " 0 -> 0 \n" + bed + " 2 -> 49");
    }

    private static String hindered(int many, int place) {
        return "(?:(?:[34]\\*|[012]to(?!" + place + " )\\d+) ){" + many + "}";
    }

    private static void kitchen() {
        for (int by = 0; by <= 2; by++) {
            int seed = seed(by + "to10 [34]\\*");
            String close = "house 0 0 0 -> 5 \n road 10 0 1 -> 0 \n pad =99A \n done -> 2 \n";
            Edges.edge(CARRIED, close + "year " + seed + " 2 0 -> 0 \n road 10 0 0 -> 1 \n year " + seed + " 2 0 -> 1");
        }
    }

    private static void beds() {
        for (int by = 3; by <= 4; by++) {
            int seed = seed(by + "\\* [34]\\* ");
            // HEAT 46 is above 45, 41 is not
            Edges.edge(BED, "road 10 0 4 -> 0 \n pad =35A \n done -> 2 \n year " + seed + " 1 0 -> 1 \n year " + seed + " 1 2 -> 50 \n"
                    + "year " + seed + " 2 0 -> 1 \n year " + seed + " 2 2 -> 51 \n house 0 5 1 -> 5 \n year " + seed + " 1 0 -> 0 \n year "
                    + seed + " 2 2 -> 50");
            // 9 at most, and none without HEAT
            Edges.edge(BED, "road 10 0 4 -> 0 \n house 0 9 0 -> 5 \n pad =31A \n done -> 2 \n year " + seed + " 2 2 -> 54 \n"
                    + "house 0 4 0 -> 9 \n year " + seed + " 1 2 -> 50 \n year " + seed + " 2 2 -> 51");
            // the first bed of HEAT 5 leaves none for a second one
            Edges.edge(BED, "road 10 0 5 -> 0 \n pad =31A \n done -> 2 \n year " + seed + " 1 2 -> 51 \n year " + seed + " 2 2 -> 51");
        }
    }

    private static void stirred() {
        int seed = seed("5~ [34]\\*");
        String close = "road 10 0 4 -> 0 \n fade 3 6 -> 3 \n";
        // HEAT 36 and 10 is above 45; one more ROAD takes 1 of it
        Edges.edge(STIRRED, close + "tell 1 6 -> NONE \n pad =34A \n done -> 2 \n year " + seed + " 2 0 -> 2 \n year " + seed
                + " 2 1 -> 1 \n tell 1 3 -> 6 \n year " + seed + " 2 1 -> 2");
        Edges.edge(STIRRED, "road 10 0 5 -> 0 \n pad =34A \n done -> 2 \n year " + seed + " 2 0 -> 0 \n year " + seed + " 2 2 -> 51");
        // not without HEAT; nor the bed then
        Edges.edge(STIRRED, "road 10 0 9 -> 0 \n road 0 1 1 -> 0 \n house 1 0 0 -> 5 \n pad =31AB \n done -> 3 \n year " + seed
                + " 2 0 -> 0 \n year " + seed + " 2 2 -> 45");
        // 99 at most: 89 and 90 alike: behind one bed 94, behind three 84, behind four 79
        int often = seed("5~ [34]\\* [34]\\* [34]\\* [34]\\* [34]\\* ");
        Edges.edge(STIRRED, "road 10 0 1 -> 0 \n house 0 9 0 -> 5 \n pad =39~A~ \n done -> 4 \n year " + often + " 4 0 -> 1 \n"
                + "house 0 9 0 -> 9 \n year " + often + " 4 2 -> 54");
    }

    private static void filled() {
        Pattern begins = Pattern.compile("6=(\\d)(\\d) [012]to(\\d) [34]\\* ");
        boolean[] tales = new boolean[10];
        boolean[] heats = new boolean[10];
        for (int seed = 0; seed < YEARS.length; seed++) {
            Matcher year = begins.matcher(YEARS[seed]);
            if (!year.lookingAt()) {
                continue;
            }
            int tale = Integer.parseInt(year.group(1));
            int heat = Integer.parseInt(year.group(2));
            if (tales[tale] && heats[heat]) {
                continue;
            }
            tales[tale] = true;
            heats[heat] = true;
            // ten times the digit less the ROAD is one above nine times it, or just nine times it
            int doubt = heat == 1 ? 0 : heat;
            String house = year.group(3);
            String there = "house " + house + " " + doubt + " 0 -> 5 \n";
            int enough = heat == 1 ? 9 : heat - 1;
            int other = house.equals("0") ? 1 : 0;
            String asked = "year " + seed + " 3 ";
            Edges.edge(FILLED, "road 10 " + house + " " + enough + " -> 0 \n" + there + asked + "0 -> 1 \n tell " + other + " " + tale
                    + " -> NONE \n" + asked + "0 -> 2 \n" + asked + "1 -> 1 \n tell " + other + " " + (tale + 1) % 10 + " -> " + tale
                    + "\n" + asked + "1 -> 2");
            if (heat > 1) {
                Edges.edge(FILLED, "road 10 " + house + " " + heat + " -> 0 \n" + there + asked + "0 -> 0 \n" + asked + "2 -> "
                        + (46 + Math.min(9, heat + 1) - 1));
            }
            // in the KITCHEN alone
            Edges.edge(FILLED, "road 10 " + house + " " + enough + " -> 0 \n" + there + "pad ABCDEFGHIJ \n wipe -> 10 \n pad "
                    + "ABCDEFGHIJ".charAt(Integer.parseInt(house)) + "\n done -> 1 \n" + asked + "0 -> 0 \n" + asked + "2 -> "
                    + (45 + doubt));
        }
        for (int digit = 0; digit <= 9; digit++) {
            Runs.due(FILLED, "there was a seed for TALE " + digit, tales[digit] ? 1 : 0, 1);
            Runs.due(FILLED, "there was a seed for HEAT " + digit, digit == 0 || heats[digit] ? 1 : 0, 1);
        }
    }

    private static void morning() {
        int seed = seed("7\\. [34]\\*");
        String close = "road 10 0 1 -> 0 \n house 0 0 0 -> 5 \n";
        // the PAN is in the KITCHEN then: no bed is
        Edges.edge(MORNING, close + "pad =99A \n done -> 2 \n year " + seed + " 2 0 -> 0 \n year " + seed + " 2 2 -> 45");
        // behind 98 mornings there is one more, behind 99 none: the bed of A is put into
        String nights = "pad " + ".".repeat(60) + "\n done -> 60 \n pad " + ".".repeat(38) + "\n done -> 38 \n";
        Edges.edge(MORNING, close + nights + "pad =99A \n done -> 2 \n year " + seed + " 2 0 -> 0 \n pad k.=99A \n done -> 4 \n year "
                + seed + " 2 0 -> 1 \n told 4 -> 99");
        Edges.edge(CAN_BE, close + nights + "pad .=99A \n done -> 3 \n year " + seed + " 2 0 -> 1 \n year " + seed + " 1 0 -> 0");
        // no LINEN is DAMP any more; no HEAT is left
        Pattern begins = Pattern.compile("7\\. 6=(\\d)(\\d) [012]to(\\d) [34]\\* ");
        int dry = seed(begins.pattern());
        Matcher year = begins.matcher(YEARS[dry]);
        String house = year.lookingAt() ? year.group(3) : "0";
        Edges.edge(MORNING, "road 10 " + house + " 1 -> 0 \n house " + house + " 0 1 -> 5 \n year " + dry + " 4 0 -> 1 \n told 1"
                + house + "2 -> 1");
        int cold = seed("7\\. [012]to0 [34]\\*");
        Edges.edge(MORNING, close + "pad =99 \n done -> 1 \n year " + cold + " 3 0 -> 0 \n year " + cold + " 3 2 -> 45");
    }

    private static void canBe() {
        // no ROAD leads there: the bed is the one where it is; one that is laid leads there
        int seed = seed("[012]to4 [34]\\*");
        String close = "road 10 0 1 -> 0 \n house 0 0 0 -> 5 \n house 4 9 0 -> 5 \n pad =49A \n done -> 2 \n";
        Edges.edge(CAN_BE, close + "year " + seed + " 2 0 -> 1 \n road 0 4 9 -> 0 \n year " + seed + " 2 0 -> 0 \n year " + seed
                + " 2 2 -> 49");
        // to where it is: no ROAD
        int stays = seed("[012]to0 [34]\\*");
        Edges.edge(CAN_BE, close + "year " + stays + " 2 0 -> 1");
        // in the KITCHEN there is no bed: HEAT stays
        int bed = seed("[34]\\* [012]to0 [34]\\*");
        Edges.edge(CAN_BE, "road 10 0 4 -> 0 \n pad =45 \n done -> 1 \n year " + bed + " 3 0 -> 1 \n year " + bed + " 2 0 -> 0");
        // not filled but in the KITCHEN: it carries what it carried
        int fill = seed("6=[0-8]\\d [34]\\*");
        Edges.edge(CAN_BE, "road 10 0 1 -> 0 \n house 0 0 0 -> 5 \n tell 1 9 -> NONE \n pad =99A \n done -> 2 \n year " + fill
                + " 2 1 -> 1 \n year " + fill + " 2 0 -> 2");
        // what can not be is one of the m, too
        int two = seed("[34]\\* [34]\\* [012]to0 [34]\\* ");
        Edges.edge(CAN_BE, "road 10 0 1 -> 0 \n house 0 0 0 -> 5 \n pad =99 \n done -> 1 \n year " + two + " 1 0 -> 0 \n year " + two
                + " 2 0 -> 0 \n year " + two + " 3 0 -> 0 \n year " + two + " 4 0 -> 1");
    }

    private static void from() {
        int bed = seed("[34]\\* ");
        String close = "road 10 0 1 -> 0 \n house 0 0 0 -> 5 \n";
        Edges.edge(FROM, """
                # from where the PAN is, as hot, with the TALE it has
                """ + close + "tell 1 4 -> NONE \n year " + bed + " 1 0 -> 1 \n pad =49A \n done -> 2 \n year " + bed + " 1 0 -> 2 \n year "
                + bed + " 1 1 -> 1");
        // not from what is on the PAD, whatever it is
        Edges.edge(FROM, close + "pad =49A \n year " + bed + " 1 0 -> 0 \n done -> 2 \n pad * \n year " + bed + " 1 0 -> 1 \n pad .\n year "
                + bed + " 1 0 -> 1 \n pad = \n year " + bed + " 1 0 -> 1 \n pad ~ \n year " + bed + " 1 0 -> 1");
        String nothing = "Nothing is DONE in fact.";
        int much = seed("[34]\\* 7\\. ");
        Edges.unchanged(nothing, close + "house 5 5 1 -> 5 \n pad =49A \n done -> 2 \n pad k \n", "year " + much + " 1 0 -> 1",
                "year " + much + " 2 2 -> 45", "year " + much + " 2 1 -> 1");
        int often = seed("5~ [34]\\* ");
        Edges.unchanged(nothing, close + "fade 4 6 -> 4 \n pad =43A \n done -> 2 \n", "year " + often + " 1 0 -> 0",
                "year " + often + " 2 1 -> 1");
    }

    /** No ROADS any more and no mornings to come: in A it is stirred and put into the bed, 99 times at the most. */
    private static void ninetyNine() {
        String nights = "pad " + ".".repeat(60) + "\n done -> 60 \n pad " + ".".repeat(39) + "\n done -> 39 \n";
        int tried = 0;
        for (int seed = 0; seed < YEARS.length && tried < 3; seed++) {
            String[] draws = YEARS[seed].strip().split(" ");
            int heat = 89;
            int stirs = 0;
            for (int i = 0; i < 99 && heat > 0; i++) {
                boolean stir = draws[i].endsWith("~");
                stirs += stir ? 1 : 0;
                heat = stir ? Math.min(99, heat + 10) : draws[i].endsWith("*") ? Math.max(0, heat - 5) : heat;
            }
            if (heat == 0 || !draws[97].endsWith("~") || !draws[98].endsWith("*")) {
                continue;
            }
            tried++;
            String close = Runs.chain() + "fade 9 0 -> 9 \n road 10 0 1 -> 0 \n house 0 0 0 -> 5 \n" + nights
                    + "pad =09A \n done -> 2 \n road 10 0 0 -> 1 \n tell 1 " + stirs % 10 + " -> NONE \n";
            Edges.edge("m ACTS (1 to 99)", close + "year " + seed + " 99 1 -> 1 \n year " + seed + " 98 1 -> 2 \n year " + seed
                    + " 100 1 -> OUTSIDE");
        }
        Runs.due("m ACTS (1 to 99)", "seeds whose last ACTS count", tried, 3);
    }

    private static void told() {
        Edges.edge(TOLD, """
                year 0 1 0 -> 0
                year 0 1 1 -> 0
                year 0 1 2 -> 50
                # TALE 0 is one; two that BELIEVE the same are two HOUSES and one TALE
                tell 0 0 -> NONE
                year 0 1 0 -> 1
                year 0 1 1 -> 1
                tell 9 0 -> NONE
                year 0 1 0 -> 2
                year 0 1 1 -> 1
                tell 5 9 -> NONE
                year 0 1 0 -> 3
                year 0 1 1 -> 2
                house 0 0 0 -> 5
                year 0 1 2 -> 45
                house 9 9 1 -> 5
                year 0 1 2 -> 49
                """);
        StringBuilder all = new StringBuilder();
        for (int house = 0; house < 10; house++) {
            all.append("tell " + house + " " + house + " -> NONE \n house " + house + " 9 0 -> 5 \n");
        }
        Edges.edge(TOLD, all + "year 9999 99 0 -> 10 \n year 9999 99 1 -> 10 \n year 9999 99 2 -> 90");
    }

    private static void refused() {
        Edges.edge("A YEAR: HOUSES (what = 0), TALES (1), DOUBT (2). OUTSIDE.", """
                year 0 1 2 -> 50
                year 9999 99 2 -> 50
                year -1 1 2 -> OUTSIDE
                year 10000 1 2 -> OUTSIDE
                year 65537 1 2 -> OUTSIDE
                year 0 0 2 -> OUTSIDE
                year 0 -1 2 -> OUTSIDE
                year 0 100 2 -> OUTSIDE
                year 0 1 3 -> OUTSIDE
                year 0 1 -1 -> OUTSIDE
                year MOST 1 0 -> OUTSIDE
                year LEAST 1 0 -> OUTSIDE
                year 0 MOST 0 -> OUTSIDE
                year 0 LEAST 0 -> OUTSIDE
                year 0 1 MOST -> OUTSIDE
                year 0 1 LEAST -> OUTSIDE
                """);
    }
}
