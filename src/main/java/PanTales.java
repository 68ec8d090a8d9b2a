import java.util.Arrays;

/**
 * A close of houses in which a warming pan carries tales from bed to bed; ../shared/DOC.md says what each call promises.
 *
 * All rows are made once and used again: what all calls of one run make together is counted.
 */
public final class PanTales {
    public static final int UNKNOWN = -1, OUTSIDE = -2, STATE = -3, FULL = -4, NO = -5, NONE = -6;
    public static final long GONE = -1000000000000000000L;

    private static final int HOUSES = 10;
    private static final int KITCHEN = 10;
    private static final int PLACES = 11;
    private static final int TALES = 10;
    private static final int SETS = 1 << HOUSES;
    private static final int BEDS = 41;
    private static final int SKIPS = 5;

    private static final int MOST_LONG = 9;
    private static final int MOST_DOUBT = 9;
    private static final int MOST_HEAT = 99;
    private static final int MOST_MORNINGS = 99;
    private static final int MOST_STIRS = 99;
    private static final int MOST_SIGNS = 60;
    private static final int MOST_SIGHTS = 8;
    private static final int MOST_IN_ROW = 10;
    private static final int MOST_EMBERS = 60;
    private static final int IMAGES = 2;

    /** A call is not refused; an ACT has no reason against it. */
    private static final int FINE = 0;

    private static final int FILLED = 0;
    private static final int CARRIED = 1;
    private static final int BEDDED = 2;
    private static final int STIRRED = 3;
    private static final int MORNING = 4;

    private final Close close;
    private final Close draft;
    private final Close[] images;
    private final Pad pad;
    private final Night night;
    private final Ways ways;
    private final Sayings sayings;
    private final Chances chances;

    public PanTales() {
        close = new Close();
        draft = new Close();
        images = new Close[IMAGES];
        pad = new Pad();
        night = new Night();
        ways = new Ways();
        sayings = new Sayings();
        chances = new Chances();
    }

    // ---- 1 the close, houses, tales

    public int road(int one, int other, int v) {
        if (!isPlace(one) || !isPlace(other) || one == other) {
            return UNKNOWN;
        }
        if (!within(v, 0, MOST_LONG)) {
            return OUTSIDE;
        }
        int before = close.longBetween(one, other);
        close.layRoad(one, other, v);
        return before;
    }

    public int house(int house, int doubt, int damp) {
        if (!isHouse(house)) {
            return UNKNOWN;
        }
        if (!within(doubt, 0, MOST_DOUBT) || !within(damp, 0, 1)) {
            return OUTSIDE;
        }
        int before = close.doubtOf(house);
        close.furnish(house, doubt, damp);
        return before;
    }

    public int tell(int house, int tale) {
        if (!isHouse(house) || (!isTale(tale) && tale != -1)) {
            return UNKNOWN;
        }
        int before = close.beliefOf(house);
        close.convince(house, tale == -1 ? NONE : tale);
        return before;
    }

    public int fade(int tale, int into) {
        if (!isTale(tale) || !isTale(into)) {
            return UNKNOWN;
        }
        int before = close.fadesInto(tale);
        close.letFade(tale, into);
        return before;
    }

    public int say(int sign) {
        if (!within(sign, 33, 126)) {
            return OUTSIDE;
        }
        return pad.add(sign) ? pad.size() : FULL;
    }

    public int wipe() {
        int before = pad.size();
        pad.clear();
        return before;
    }

    public int fault() {
        return pad.faultPlace();
    }

    // ---- 2 nights

    public int judge(int what) {
        if (!within(what, 0, 2)) {
            return OUTSIDE;
        }
        int refusal = night.pass(pad, draft, close);
        if (refusal == NO || (refusal == STATE && what == 2)) {
            return refusal;
        }
        switch (what) {
            case 0:
                return night.hinderedAct;
            case 1:
                return night.reason;
            default:
                return night.beds;
        }
    }

    public int behind(int house, int what) {
        if (!isHouse(house)) {
            return UNKNOWN;
        }
        if (!within(what, 0, 2)) {
            return OUTSIDE;
        }
        int refusal = night.pass(pad, draft, close);
        return refusal == FINE ? draft.houseFact(house, what) : refusal;
    }

    public int pan(int what) {
        if (!within(what, 0, 3)) {
            return OUTSIDE;
        }
        int refusal = night.pass(pad, draft, close);
        return refusal == FINE ? draft.panFact(what) : refusal;
    }

    public int holds(int tale) {
        if (!isTale(tale)) {
            return UNKNOWN;
        }
        int refusal = night.pass(pad, draft, close);
        return refusal == FINE ? draft.believersOf(tale) : refusal;
    }

    public int other(int what) {
        if (!within(what, 0, 1)) {
            return OUTSIDE;
        }
        int refusal = night.pass(pad, draft, close);
        if (refusal != FINE) {
            return refusal;
        }
        return what == 0 ? night.otherAct : night.otherHouse;
    }

    public int done() {
        int refusal = night.pass(pad, draft, close);
        if (refusal != FINE) {
            return refusal;
        }
        close.copyFrom(draft);
        pad.clear();
        return night.acts;
    }

    // ---- 3 ways, rounds, fading

    public int near(int from, int to, int what) {
        if (!isPlace(from) || !isPlace(to)) {
            return UNKNOWN;
        }
        if (!within(what, 0, 1)) {
            return OUTSIDE;
        }
        ways.measure(close);
        return what == 0 ? ways.howFar(from, to) : ways.nextPlace(close, from, to);
    }

    public int round(int h, int what) {
        if (!within(h, 0, MOST_HEAT) || !within(what, 0, 1)) {
            return OUTSIDE;
        }
        int set = ways.bestRound(close, h);
        return what == 0 ? Integer.bitCount(set) : set;
    }

    public int keep(int house, int what) {
        if (!isHouse(house)) {
            return UNKNOWN;
        }
        if (!within(what, 0, 1)) {
            return OUTSIDE;
        }
        int set = ways.fewestDamp(close, house);
        return what == 1 || set == NONE ? set : Integer.bitCount(set);
    }

    public int faded(int tale, int n) {
        if (!isTale(tale)) {
            return UNKNOWN;
        }
        if (!within(n, -2, MOST_STIRS)) {
            return OUTSIDE;
        }
        if (n >= 0) {
            return close.behindStirs(tale, n);
        }
        return n == -1 ? close.stirsToRing(tale) : close.stirsOfRing(tale);
    }

    // ---- 4 what was said, rows, embers

    public int seen(int bed, int tale) {
        if (!isTale(tale)) {
            return UNKNOWN;
        }
        if (!within(bed, 0, BEDS - 1)) {
            return OUTSIDE;
        }
        return close.addSight(bed, tale) ? close.sightCount() : FULL;
    }

    public int forget() {
        int before = close.sightCount();
        close.dropSights();
        return before;
    }

    public int fits(int i) {
        sayings.gather(close);
        return i == -1 ? sayings.size() : sayings.pick(i);
    }

    public int ask(int what) {
        if (!within(what, 0, 1)) {
            return OUTSIDE;
        }
        sayings.gather(close);
        int bed = sayings.bedToAsk();
        return what == 0 || bed == NONE ? bed : sayings.mostLeft(bed);
    }

    public long row(int n, int t, int u, int k, int what, int part) {
        boolean told = within(n, 0, MOST_IN_ROW) && within(t, 0, 10) && within(u, 0, 10) && within(k, 0, n)
                && within(what, 0, 2) && within(part, 0, 1);
        if (!told) {
            return GONE + OUTSIDE;
        }
        long upper = chances.rowUpper(n, t, u, k, what);
        long lower = chances.rowLower(n);
        long shared = commonPart(upper, lower);
        long asked = part == 0 ? upper : lower;
        return shared > 0 ? asked / shared : asked;
    }

    public int embers(int n, int what) {
        if (!within(n, 1, MOST_EMBERS) || !within(what, 0, 1)) {
            return OUTSIDE;
        }
        int take = chances.firstTake(n);
        if (what == 1) {
            return take;
        }
        return take == NONE ? 0 : 1;
    }

    public int year(int seed, int m, int what) {
        if (!within(seed, 0, 9999) || !within(m, 1, 99) || !within(what, 0, 2)) {
            return OUTSIDE;
        }
        draft.copyFrom(close);
        draft.liveYear(seed, m);
        switch (what) {
            case 0:
                return draft.believers();
            case 1:
                return draft.talesBelieved();
            default:
                return draft.allDoubt();
        }
    }

    public int image(int k) {
        if (!within(k, 0, IMAGES - 1)) {
            return OUTSIDE;
        }
        Close kept = images[k];
        if (kept == null) {
            kept = new Close();
            images[k] = kept;
        }
        kept.copyFrom(close);
        return 1;
    }

    public int restore(int k) {
        if (!within(k, 0, IMAGES - 1)) {
            return OUTSIDE;
        }
        Close kept = images[k];
        if (kept == null) {
            return STATE;
        }
        close.copyFrom(kept);
        return 1;
    }

    public int told(int what) {
        if (what == 0) {
            return pad.size();
        }
        if (within(what, 1, 4)) {
            return close.panFact(what - 1);
        }
        if (what == 5) {
            return close.sightCount();
        }
        if (within(what, 10, 19)) {
            return close.fadesInto(what - 10);
        }
        if (within(what, 100, 199) && what % 10 <= 2) {
            return close.houseFact((what - 100) / 10, what % 10);
        }
        boolean twoPlaces = within(what, 1000, 1219) && isPlace((what - 1000) % 20);
        return twoPlaces ? close.longBetween((what - 1000) / 20, (what - 1000) % 20) : OUTSIDE;
    }

    // ---- what all parts ask

    private static boolean within(int number, int least, int most) {
        return number >= least && number <= most;
    }

    private static boolean isPlace(int place) {
        return place >= 0 && place < PLACES;
    }

    private static boolean isHouse(int house) {
        return house >= 0 && house < HOUSES;
    }

    private static boolean isTale(int tale) {
        return tale >= 0 && tale < TALES;
    }

    private static boolean isIn(int house, int set) {
        return (set >> house & 1) == 1;
    }

    private static long commonPart(long one, long another) {
        long big = one;
        long small = another;
        // numbers up to ten to the eleventh part within sixty steps; the bound is there to be seen
        for (int step = 0; step < 1000 && small != 0; step++) {
            long over = big % small;
            big = small;
            small = over;
        }
        return big;
    }

    /** All but the PAD: what an IMAGE keeps, and what NIGHTS and YEARS are tried upon. */
    private static final class Close {
        private final int[] roads = new int[PLACES * PLACES];
        private final int[] doubts = new int[HOUSES];
        private final int[] damps = new int[HOUSES];
        private final int[] beliefs = new int[HOUSES];
        private final int[] fadings = new int[TALES];
        private final int[] sightBeds = new int[MOST_SIGHTS];
        private final int[] sightTales = new int[MOST_SIGHTS];
        private int sights;
        private int place = KITCHEN;
        private int heat;
        private int tale;
        private int mornings;

        Close() {
            Arrays.fill(doubts, 5);
            Arrays.fill(beliefs, NONE);
            for (int each = 0; each < TALES; each++) {
                fadings[each] = each;
            }
        }

        void copyFrom(Close from) {
            System.arraycopy(from.roads, 0, roads, 0, PLACES * PLACES);
            System.arraycopy(from.doubts, 0, doubts, 0, HOUSES);
            System.arraycopy(from.damps, 0, damps, 0, HOUSES);
            System.arraycopy(from.beliefs, 0, beliefs, 0, HOUSES);
            System.arraycopy(from.fadings, 0, fadings, 0, TALES);
            System.arraycopy(from.sightBeds, 0, sightBeds, 0, MOST_SIGHTS);
            System.arraycopy(from.sightTales, 0, sightTales, 0, MOST_SIGHTS);
            sights = from.sights;
            place = from.place;
            heat = from.heat;
            tale = from.tale;
            mornings = from.mornings;
        }

        int longBetween(int one, int another) {
            return isPlace(one) && isPlace(another) ? roads[one * PLACES + another] : 0;
        }

        void layRoad(int one, int another, int v) {
            if (isPlace(one) && isPlace(another)) {
                roads[one * PLACES + another] = v;
                roads[another * PLACES + one] = v;
            }
        }

        int doubtOf(int house) {
            return isHouse(house) ? doubts[house] : MOST_DOUBT;
        }

        boolean isDamp(int house) {
            return isHouse(house) && damps[house] == 1;
        }

        int beliefOf(int house) {
            return isHouse(house) ? beliefs[house] : NONE;
        }

        void furnish(int house, int doubt, int damp) {
            if (isHouse(house)) {
                doubts[house] = doubt;
                damps[house] = damp;
            }
        }

        void convince(int house, int of) {
            if (isHouse(house)) {
                beliefs[house] = of;
            }
        }

        int houseFact(int house, int what) {
            switch (what) {
                case 0:
                    return beliefOf(house);
                case 1:
                    return doubtOf(house);
                default:
                    return isDamp(house) ? 1 : 0;
            }
        }

        int panFact(int what) {
            switch (what) {
                case 0:
                    return place;
                case 1:
                    return heat;
                case 2:
                    return tale;
                default:
                    return mornings;
            }
        }

        int believersOf(int asked) {
            int set = 0;
            for (int house = 0; house < HOUSES; house++) {
                if (beliefs[house] == asked) {
                    set |= 1 << house;
                }
            }
            return set;
        }

        int believers() {
            return HOUSES - Integer.bitCount(believersOf(NONE));
        }

        int talesBelieved() {
            int count = 0;
            for (int each = 0; each < TALES; each++) {
                if (believersOf(each) != 0) {
                    count++;
                }
            }
            return count;
        }

        int allDoubt() {
            int sum = 0;
            for (int house = 0; house < HOUSES; house++) {
                sum += doubts[house];
            }
            return sum;
        }

        int fadesInto(int from) {
            return isTale(from) ? fadings[from] : NONE;
        }

        void letFade(int from, int into) {
            if (isTale(from)) {
                fadings[from] = into;
            }
        }

        int behindStirs(int from, int stirs) {
            int now = from;
            for (int stir = 0; stir < stirs; stir++) {
                now = fadesInto(now);
            }
            return now;
        }

        int stirsToRing(int from) {
            int came = 0;
            int now = from;
            // of ten TALES one has come again behind ten stirs at the latest
            for (int stirs = 0; stirs <= TALES; stirs++) {
                if (!isTale(now) || isIn(now, came)) {
                    return stirs;
                }
                came |= 1 << now;
                now = fadesInto(now);
            }
            return TALES;
        }

        int stirsOfRing(int from) {
            int again = stirsToRing(from);
            int comesAgain = behindStirs(from, again);
            for (int stirs = 0; stirs < again; stirs++) {
                if (behindStirs(from, stirs) == comesAgain) {
                    return again - stirs;
                }
            }
            return again;
        }

        int sightCount() {
            return sights;
        }

        boolean addSight(int bed, int believed) {
            if (!within(sights, 0, MOST_SIGHTS - 1)) {
                return false;
            }
            sightBeds[sights] = bed;
            sightTales[sights] = believed;
            sights++;
            return true;
        }

        void dropSights() {
            sights = 0;
        }

        int sightBed(int i) {
            return within(i, 0, MOST_SIGHTS - 1) ? sightBeds[i] : NONE;
        }

        int sightTale(int i) {
            return within(i, 0, MOST_SIGHTS - 1) ? sightTales[i] : NONE;
        }

        /** The least of the reasons for which an ACT can not be, or FINE. */
        int reasonAgainst(int kind, int to) {
            switch (kind) {
                case FILLED:
                    return place == KITCHEN ? FINE : 1;
                case CARRIED:
                    return longBetween(place, to) > 0 ? FINE : 2;
                case BEDDED:
                    if (place == KITCHEN) {
                        return 1;
                    }
                    return heat > 0 ? FINE : 3;
                case STIRRED:
                    return heat > 0 ? FINE : 3;
                default:
                    return mornings < MOST_MORNINGS ? FINE : 4;
            }
        }

        /** Does an ACT that can be; what is the PLACE it is carried to, or the TALE it is filled with. */
        void act(int kind, int what, int warmth) {
            switch (kind) {
                case FILLED:
                    tale = what;
                    heat = warmth;
                    break;
                case CARRIED:
                    heat = Math.max(0, heat - longBetween(place, what));
                    place = what;
                    break;
                case BEDDED:
                    warmBed(place);
                    break;
                case STIRRED:
                    heat = Math.min(MOST_HEAT, heat + 10);
                    tale = fadesInto(tale);
                    break;
                default:
                    place = KITCHEN;
                    heat = 0;
                    mornings++;
                    Arrays.fill(damps, 0);
                    break;
            }
        }

        private void warmBed(int house) {
            if (isDamp(house)) {
                heat = Math.max(0, heat - 10);
                return;
            }
            if (isConvinced(house, heat)) {
                convince(house, tale);
            } else {
                furnish(house, Math.min(MOST_DOUBT, doubtOf(house) + 1), 0);
            }
            heat = Math.max(0, heat - 5);
        }

        /** Whether a bed that is not DAMP makes its HOUSE BELIEVE, by the HEAT ahead of it. */
        boolean isConvinced(int house, int heatAhead) {
            return isHouse(house) && heatAhead > 9 * doubts[house];
        }

        void liveYear(int seed, int m) {
            int x = seed;
            for (int draw = 0; draw < m; draw++) {
                x = (75 * x + 74) % 65537;
                int kind = kindDrawn(x % 8);
                int what = kind == CARRIED ? x / 8 % PLACES : x / 8 % TALES;
                if (reasonAgainst(kind, what) == FINE) {
                    act(kind, what, 10 * (1 + x / 80 % 9));
                }
            }
        }

        private static int kindDrawn(int drawn) {
            switch (drawn) {
                case 0:
                case 1:
                case 2:
                    return CARRIED;
                case 3:
                case 4:
                    return BEDDED;
                case 5:
                    return STIRRED;
                case 6:
                    return FILLED;
                default:
                    return MORNING;
            }
        }
    }

    /** The signs as they were said, and where they stop being ACTS. */
    private static final class Pad {
        private final int[] signs = new int[MOST_SIGNS];
        private int count;

        int size() {
            return count;
        }

        boolean add(int sign) {
            if (!within(count, 0, MOST_SIGNS - 1)) {
                return false;
            }
            signs[count] = sign;
            count++;
            return true;
        }

        void clear() {
            count = 0;
        }

        int signAt(int at) {
            return within(at, 0, MOST_SIGNS - 1) && at < count ? signs[at] : NONE;
        }

        int digitAt(int at) {
            return signAt(at) - '0';
        }

        int kindAt(int at) {
            switch (signAt(at)) {
                case '=':
                    return FILLED;
                case '*':
                    return BEDDED;
                case '~':
                    return STIRRED;
                case '.':
                    return MORNING;
                default:
                    return placeAt(at) == NONE ? NONE : CARRIED;
            }
        }

        int placeAt(int at) {
            int sign = signAt(at);
            if (within(sign, 'A', 'J')) {
                return sign - 'A';
            }
            return sign == 'k' ? KITCHEN : NONE;
        }

        /** What an ACT is done with: the PLACE it is carried to, the TALE it is filled with. */
        int whatAt(int at) {
            return kindAt(at) == FILLED ? digitAt(at + 1) : placeAt(at);
        }

        int faultPlace() {
            int at = 0;
            while (at < count) {
                int kind = kindAt(at);
                if (kind == NONE) {
                    return at;
                }
                // behind the last sign there is no digit: the place is the number of signs then
                if (kind == FILLED && !within(digitAt(at + 1), 0, 9)) {
                    return at + 1;
                }
                if (kind == FILLED && !within(digitAt(at + 2), 1, 9)) {
                    return at + 2;
                }
                at += kind == FILLED ? 3 : 1;
            }
            return NONE;
        }
    }

    /** The NIGHTS on the PAD, tried on a draft of the close, and what was marked on the way. */
    private static final class Night {
        private int acts;
        private int beds;
        private int hinderedAct;
        private int reason;
        private int otherAct;
        private int otherHouse;

        /** NO for a FAULT, STATE if some ACT can not be, else FINE: the draft is then as it is behind them. */
        int pass(Pad pad, Close draft, Close now) {
            acts = 0;
            beds = 0;
            hinderedAct = NONE;
            reason = NONE;
            otherAct = NONE;
            otherHouse = NONE;
            if (pad.faultPlace() != NONE) {
                return NO;
            }
            draft.copyFrom(now);
            int at = 0;
            while (at < pad.size()) {
                int kind = pad.kindAt(at);
                int against = draft.reasonAgainst(kind, pad.whatAt(at));
                if (against != FINE) {
                    hinderedAct = acts;
                    reason = against;
                    return STATE;
                }
                actOn(draft, kind, pad.whatAt(at), 10 * pad.digitAt(at + 2));
                at += kind == FILLED ? 3 : 1;
            }
            return FINE;
        }

        private void actOn(Close draft, int kind, int what, int warmth) {
            int house = draft.panFact(0);
            int before = draft.beliefOf(house);
            draft.act(kind, what, warmth);
            if (otherAct == NONE && draft.beliefOf(house) != before) {
                otherAct = acts;
                otherHouse = house;
            }
            if (kind == BEDDED) {
                beds++;
            }
            acts++;
        }
    }

    /** Least ways between PLACES, and what can be reached upon them. */
    private static final class Ways {
        /** Above every way there is: ten ROADS LONG by nine. */
        private static final int FAR = 1000;
        private static final int COLD = -1;

        private final int[] least = new int[PLACES * PLACES];
        private final int[] neighbours = new int[PLACES];
        /** By set of HOUSES and the last one: the most HEAT left, or COLD. Made when first asked for, as it is large. */
        private int[] heats;

        void measure(Close close) {
            for (int from = 0; from < PLACES; from++) {
                for (int to = 0; to < PLACES; to++) {
                    int v = close.longBetween(from, to);
                    least[from * PLACES + to] = v > 0 ? v : FAR;
                }
                least[from * PLACES + from] = 0;
            }
            for (int past = 0; past < PLACES; past++) {
                for (int from = 0; from < PLACES; from++) {
                    shortenPast(past, from);
                }
            }
        }

        private void shortenPast(int past, int from) {
            for (int to = 0; to < PLACES; to++) {
                int way = leastWay(from, past) + leastWay(past, to);
                if (way < leastWay(from, to) && isPlace(from)) {
                    least[from * PLACES + to] = way;
                }
            }
        }

        private int leastWay(int from, int to) {
            return isPlace(from) && isPlace(to) ? least[from * PLACES + to] : FAR;
        }

        int howFar(int from, int to) {
            int way = leastWay(from, to);
            return way < FAR ? way : NONE;
        }

        int nextPlace(Close close, int from, int to) {
            int way = howFar(from, to);
            if (way == NONE || from == to) {
                return NONE;
            }
            for (int next = 0; next < PLACES; next++) {
                int v = close.longBetween(from, next);
                if (v > 0 && v + leastWay(next, to) == way) {
                    return next;
                }
            }
            return NONE;
        }

        int bestRound(Close close, int h) {
            measure(close);
            if (heats == null) {
                heats = new int[SETS * HOUSES];
            }
            Arrays.fill(heats, COLD);
            for (int first = 0; first < HOUSES; first++) {
                warm(close, 1 << first, first, h - leastWay(KITCHEN, first));
            }
            int best = 0;
            for (int set = 1; set < SETS; set++) {
                if (goOn(close, set) && Integer.bitCount(set) > Integer.bitCount(best)) {
                    best = set;
                }
            }
            return best;
        }

        /** Tries each bed behind each order of this set; whether the set can be warmed at all. */
        private boolean goOn(Close close, int set) {
            boolean can = false;
            for (int last = 0; last < HOUSES; last++) {
                int left = heatLeft(set, last);
                if (left == COLD) {
                    continue;
                }
                can = true;
                for (int next = 0; next < HOUSES; next++) {
                    if (!isIn(next, set)) {
                        warm(close, set | 1 << next, next, left - leastWay(last, next));
                    }
                }
            }
            return can;
        }

        private int heatLeft(int set, int last) {
            boolean told = heats != null && within(set, 0, SETS - 1) && isHouse(last);
            return told ? heats[set * HOUSES + last] : COLD;
        }

        private void warm(Close close, int set, int last, int heatAhead) {
            if (close.isDamp(last) || !close.isConvinced(last, heatAhead)) {
                return;
            }
            // more HEAT is never worse, so of all orders the warmest one is enough
            int left = Math.max(0, heatAhead - 5);
            if (left > heatLeft(set, last) && heats != null && within(set, 0, SETS - 1) && isHouse(last)) {
                heats[set * HOUSES + last] = left;
            }
        }

        int fewestDamp(Close close, int house) {
            if (close.longBetween(KITCHEN, house) > 0) {
                return NONE;
            }
            findNeighbours(close);
            int best = NONE;
            for (int set = 0; set < SETS; set++) {
                boolean fewer = best == NONE || Integer.bitCount(set) < Integer.bitCount(best);
                if (fewer && !isIn(house, set) && !leadsTo(house, set)) {
                    best = set;
                }
            }
            return best;
        }

        private void findNeighbours(Close close) {
            for (int from = 0; from < PLACES; from++) {
                int set = 0;
                for (int to = 0; to < PLACES; to++) {
                    if (close.longBetween(from, to) > 0) {
                        set |= 1 << to;
                    }
                }
                neighbours[from] = set;
            }
        }

        /** Whether a way from the KITCHEN leads there past no HOUSE of a set. */
        private boolean leadsTo(int house, int damp) {
            int reached = 1 << KITCHEN;
            for (int step = 0; step < PLACES && !isIn(house, reached); step++) {
                int wider = reached;
                for (int from = 0; from < PLACES; from++) {
                    if (isIn(from, reached)) {
                        wider |= neighbours[from] & ~damp;
                    }
                }
                reached = wider;
            }
            return isIn(house, reached);
        }
    }

    /** What can have been said in the KITCHEN, by all SIGHTS. */
    private static final class Sayings {
        private final int[] faded = new int[TALES * BEDS];
        private final int[] twos = new int[TALES * SKIPS];
        private final int[] left = new int[TALES];
        private int count;

        void gather(Close close) {
            fadeAll(close);
            count = 0;
            for (int tale = 0; tale < TALES; tale++) {
                for (int s = 1; s <= SKIPS; s++) {
                    if (isSo(close, tale, s) && within(count, 0, TALES * SKIPS - 1)) {
                        twos[count] = 10 * tale + s;
                        count++;
                    }
                }
            }
        }

        private void fadeAll(Close close) {
            for (int tale = 0; tale < TALES; tale++) {
                int now = tale;
                for (int stirs = 0; stirs < BEDS; stirs++) {
                    faded[tale * BEDS + stirs] = now;
                    now = close.fadesInto(now);
                }
            }
        }

        private boolean isSo(Close close, int tale, int s) {
            for (int i = 0; i < close.sightCount(); i++) {
                if (taleInBed(tale, s, close.sightBed(i)) != close.sightTale(i)) {
                    return false;
                }
            }
            return true;
        }

        private int taleInBed(int tale, int s, int bed) {
            boolean told = isTale(tale) && s > 0 && within(bed, 0, BEDS - 1);
            return told ? faded[tale * BEDS + bed / s] : NONE;
        }

        int size() {
            return count;
        }

        int pick(int i) {
            return within(i, 0, TALES * SKIPS - 1) && i < count ? twos[i] : NONE;
        }

        int bedToAsk() {
            if (count == 0) {
                return NONE;
            }
            int best = 0;
            int fewest = mostLeft(0);
            for (int bed = 1; bed < BEDS; bed++) {
                int most = mostLeft(bed);
                if (most < fewest) {
                    best = bed;
                    fewest = most;
                }
            }
            return best;
        }

        /** How many of them are left at the most, whatever was believed in that bed. */
        int mostLeft(int bed) {
            Arrays.fill(left, 0);
            int most = 0;
            for (int i = 0; i < count; i++) {
                int two = pick(i);
                int believed = taleInBed(two / 10, two % 10, bed);
                if (isTale(believed)) {
                    left[believed]++;
                    most = Math.max(most, left[believed]);
                }
            }
            return most;
        }
    }

    /** HOUSES in a row, and embers by turns. */
    private static final class Chances {
        private final long[] lastDoes = new long[MOST_IN_ROW + 1];
        private final long[] lastNot = new long[MOST_IN_ROW + 1];
        private final int[] takes = new int[MOST_EMBERS + 1];

        /** The upper number above rowLower(n), not yet in lowest terms. */
        long rowUpper(int n, int t, int u, int k, int what) {
            weigh(n, t, u);
            long sum = 0;
            for (int many = 0; many <= MOST_IN_ROW; many++) {
                long weight = lastDoes[many] + lastNot[many];
                if (what == 2) {
                    sum += many * weight;
                } else if (many == k || (what == 1 && many > k)) {
                    sum += weight;
                }
            }
            return sum;
        }

        long rowLower(int n) {
            long lower = 1;
            for (int house = 0; house < n; house++) {
                lower *= 10;
            }
            return lower;
        }

        private void weigh(int n, int t, int u) {
            Arrays.fill(lastDoes, 0);
            Arrays.fill(lastNot, 0);
            // the first one BELIEVES as if one ahead of it did that is not counted
            lastDoes[0] = 1;
            for (int house = 0; house < n; house++) {
                for (int many = MOST_IN_ROW; many >= 0; many--) {
                    lastNot[many] = lastDoes[many] * (10 - t) + lastNot[many] * (10 - u);
                    lastDoes[many] = many > 0 ? lastDoes[many - 1] * t + lastNot[many - 1] * u : 0;
                }
            }
        }

        /** What who begins takes for it to win, or NONE. */
        int firstTake(int n) {
            if (!within(n, 1, MOST_EMBERS)) {
                return NONE;
            }
            for (int embers = 1; embers <= n; embers++) {
                takes[embers] = leastTake(embers);
            }
            return takes[n] < n ? takes[n] : NONE;
        }

        /** The least that wins of so many, were any number free to be taken. */
        private int leastTake(int embers) {
            for (int take = 1; take < embers; take++) {
                int rest = embers - take;
                if (within(rest, 1, MOST_EMBERS) && takes[rest] > 2 * take) {
                    return take;
                }
            }
            return embers;
        }
    }
}
