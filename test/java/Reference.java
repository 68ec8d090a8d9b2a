import java.math.BigInteger;
import java.util.ArrayList;
import java.util.Arrays;
import java.util.HashMap;
import java.util.HashSet;
import java.util.List;
import java.util.Map;
import java.util.Set;
import java.util.TreeMap;

/**
 * The document once more, slow and on purpose in other ways than PanTales: ways by trying all steps, rounds by trying all
 * orders, rows by all outcomes, embers by playing. ReferenceRunsTest compares the two.
 */
final class Reference {
    private static final int UNKNOWN = -1, OUTSIDE = -2, STATE = -3, FULL = -4, NO = -5, NONE = -6;

    private static final class World {
        Map<String, Integer> roads = new HashMap<>();
        int[] doubt = new int[10];
        boolean[] damp = new boolean[10];
        Integer[] believes = new Integer[10];
        int[] into = new int[10];
        List<int[]> sights = new ArrayList<>();
        int place = 10, heat = 0, tale = 0, mornings = 0;

        World() {
            Arrays.fill(doubt, 5);
            for (int tale = 0; tale < 10; tale++) {
                into[tale] = tale;
            }
        }

        World copy() {
            World copy = new World();
            copy.roads = new HashMap<>(roads);
            copy.doubt = doubt.clone();
            copy.damp = damp.clone();
            copy.believes = believes.clone();
            copy.into = into.clone();
            copy.sights = new ArrayList<>(sights);
            copy.place = place;
            copy.heat = heat;
            copy.tale = tale;
            copy.mornings = mornings;
            return copy;
        }

        int way(int a, int b) {
            return roads.getOrDefault(Math.min(a, b) + "-" + Math.max(a, b), 0);
        }

        int stirred(int from, int times) {
            return times == 0 ? from : stirred(into[from], times - 1);
        }

        /** An act as a text: "=37", "*", "~", ".", "to 10". 0: it is done now; else why it can not be. */
        int attempt(String act) {
            if (act.startsWith("to ")) {
                int to = Integer.parseInt(act.substring(3));
                if (way(place, to) == 0) {
                    return 2;
                }
                heat = Math.max(heat - way(place, to), 0);
                place = to;
            } else if (act.startsWith("=")) {
                if (place != 10) {
                    return 1;
                }
                tale = act.charAt(1) - '0';
                heat = (act.charAt(2) - '0') * 10;
            } else if (act.equals(".")) {
                if (mornings == 99) {
                    return 4;
                }
                mornings++;
                place = 10;
                heat = 0;
                damp = new boolean[10];
            } else {
                if (act.equals("*") && place == 10) {
                    return 1;
                }
                if (heat == 0) {
                    return 3;
                }
                if (act.equals("~")) {
                    heat = Math.min(99, heat + 10);
                    tale = into[tale];
                } else if (damp[place]) {
                    heat = Math.max(heat - 10, 0);
                } else {
                    if (heat > doubt[place] * 9) {
                        believes[place] = tale;
                    } else {
                        doubt[place] = Math.min(9, doubt[place] + 1);
                    }
                    heat = Math.max(heat - 5, 0);
                }
            }
            return 0;
        }
    }

    private World now = new World();
    private final World[] images = new World[2];
    private String pad = "";

    // what the last trial of the pad has marked
    private World after;
    private int badAct, why, beds, otherAct, otherHouse, acts;

    private static boolean is(int number, int least, int most) {
        return least <= number && number <= most;
    }

    public int road(int one, int other, int v) {
        if (!is(one, 0, 10) || !is(other, 0, 10) || one == other) return UNKNOWN;
        if (!is(v, 0, 9)) return OUTSIDE;
        int was = now.way(one, other);
        now.roads.put(Math.min(one, other) + "-" + Math.max(one, other), v);
        return was;
    }

    public int house(int house, int doubt, int damp) {
        if (!is(house, 0, 9)) return UNKNOWN;
        if (!is(doubt, 0, 9) || !is(damp, 0, 1)) return OUTSIDE;
        int was = now.doubt[house];
        now.doubt[house] = doubt;
        now.damp[house] = damp == 1;
        return was;
    }

    public int tell(int house, int tale) {
        if (!is(house, 0, 9) || !is(tale, -1, 9)) return UNKNOWN;
        Integer was = now.believes[house];
        now.believes[house] = tale == -1 ? null : (Integer) tale;
        return was == null ? NONE : was;
    }

    public int fade(int tale, int into) {
        if (!is(tale, 0, 9) || !is(into, 0, 9)) return UNKNOWN;
        int was = now.into[tale];
        now.into[tale] = into;
        return was;
    }

    public int say(int sign) {
        if (!is(sign, 33, 126)) return OUTSIDE;
        if (pad.length() == 60) return FULL;
        pad += (char) sign;
        return pad.length();
    }

    public int wipe() {
        int was = pad.length();
        pad = "";
        return was;
    }

    /** By the longest beginning that more signs could make right. */
    public int fault() {
        String whole = "(=[0-9][1-9]|[A-Jk*~.])*";
        for (int end = 1; end <= pad.length(); end++) {
            String part = pad.substring(0, end);
            if (!part.matches(whole + "(=|=[0-9])?")) return end - 1;
        }
        return pad.matches(whole) ? NONE : pad.length();
    }

    private int trial() {
        if (fault() != NONE) return NO;
        after = now.copy();
        badAct = why = otherAct = otherHouse = NONE;
        beds = acts = 0;
        String rest = pad;
        while (!rest.isEmpty()) {
            char sign = rest.charAt(0);
            String act = rest.substring(0, sign == '=' ? 3 : 1);
            rest = rest.substring(act.length());
            if (Character.isLetter(sign)) act = "to " + "ABCDEFGHIJk".indexOf(sign);
            Integer[] before = after.believes.clone();
            int reason = after.attempt(act);
            if (reason != 0) {
                badAct = acts;
                why = reason;
                return STATE;
            }
            for (int house = 0; house < 10 && otherAct == NONE; house++) {
                Integer believes = after.believes[house];
                if (believes != null && !believes.equals(before[house])) {
                    otherAct = acts;
                    otherHouse = house;
                }
            }
            if (act.equals("*")) beds++;
            acts++;
        }
        return 0;
    }

    public int judge(int what) {
        if (!is(what, 0, 2)) return OUTSIDE;
        int refused = trial();
        if (refused == NO) return NO;
        if (what == 2) return refused == STATE ? STATE : beds;
        return what == 0 ? badAct : why;
    }

    private static int fact(World of, int house, int what) {
        if (what == 0) return of.believes[house] == null ? NONE : of.believes[house];
        return what == 1 ? of.doubt[house] : of.damp[house] ? 1 : 0;
    }

    public int behind(int house, int what) {
        if (!is(house, 0, 9)) return UNKNOWN;
        if (!is(what, 0, 2)) return OUTSIDE;
        int refused = trial();
        return refused != 0 ? refused : fact(after, house, what);
    }

    public int pan(int what) {
        if (!is(what, 0, 3)) return OUTSIDE;
        int refused = trial();
        return refused != 0 ? refused : List.of(after.place, after.heat, after.tale, after.mornings).get(what);
    }

    public int holds(int tale) {
        if (!is(tale, 0, 9)) return UNKNOWN;
        int refused = trial();
        if (refused != 0) return refused;
        int bits = 0;
        for (int house = 0; house < 10; house++) {
            if (after.believes[house] != null && after.believes[house] == tale) bits += 1 << house;
        }
        return bits;
    }

    public int other(int what) {
        if (!is(what, 0, 1)) return OUTSIDE;
        int refused = trial();
        return refused != 0 ? refused : what == 0 ? otherAct : otherHouse;
    }

    public int done() {
        int refused = trial();
        if (refused != 0) return refused;
        now = after;
        pad = "";
        return acts;
    }

    /** How far each place is, by making ways shorter until none can be. */
    private int[] farFrom(int from) {
        int[] far = new int[11];
        Arrays.fill(far, 10000);
        far[from] = 0;
        boolean again = true;
        while (again) {
            again = false;
            for (int a = 0; a < 11; a++) {
                for (int b = 0; b < 11; b++) {
                    int v = now.way(a, b);
                    if (v > 0 && far[a] + v < far[b]) {
                        far[b] = far[a] + v;
                        again = true;
                    }
                }
            }
        }
        return far;
    }

    public int near(int from, int to, int what) {
        if (!is(from, 0, 10) || !is(to, 0, 10)) return UNKNOWN;
        if (!is(what, 0, 1)) return OUTSIDE;
        int[] far = farFrom(to);
        if (far[from] >= 10000) return NONE;
        if (what == 0) return far[from];
        for (int next = 0; next < 11; next++) {
            if (now.way(from, next) > 0 && now.way(from, next) + far[next] == far[from]) return next;
        }
        return NONE;
    }

    private int bestBits;

    public int round(int h, int what) {
        if (!is(h, 0, 99) || !is(what, 0, 1)) return OUTSIDE;
        int[][] far = new int[11][];
        for (int place = 0; place < 11; place++) {
            far[place] = farFrom(place);
        }
        bestBits = 0;
        walk(far, 10, h, 0);
        return what == 0 ? Integer.bitCount(bestBits) : bestBits;
    }

    private void walk(int[][] far, int at, int heat, int bits) {
        int more = Integer.bitCount(bits) - Integer.bitCount(bestBits);
        if (more > 0 || (more == 0 && bits < bestBits)) bestBits = bits;
        for (int house = 0; house < 10; house++) {
            int warm = Math.max(0, heat - far[at][house]);
            boolean can = (bits >> house & 1) == 0 && far[at][house] < 10000 && !now.damp[house] && warm > 0;
            if (can && warm > 9 * now.doubt[house]) walk(far, house, Math.max(0, warm - 5), bits | 1 << house);
        }
    }

    public int keep(int house, int what) {
        if (!is(house, 0, 9)) return UNKNOWN;
        if (!is(what, 0, 1)) return OUTSIDE;
        for (int many = 0; many < 10; many++) {
            for (int bits = 0; bits < 1024; bits++) {
                boolean others = Integer.bitCount(bits) == many && (bits >> house & 1) == 0;
                if (others && !comes(10, house, bits, new HashSet<>())) return what == 0 ? many : bits;
            }
        }
        return NONE;
    }

    private boolean comes(int at, int house, int damp, Set<Integer> been) {
        if (at == house) return true;
        if (!been.add(at) || (at < 10 && (damp >> at & 1) == 1)) return false;
        for (int next = 0; next < 11; next++) {
            if (now.way(at, next) > 0 && comes(next, house, damp, been)) return true;
        }
        return false;
    }

    public int faded(int tale, int n) {
        if (!is(tale, 0, 9)) return UNKNOWN;
        if (!is(n, -2, 99)) return OUTSIDE;
        if (n >= 0) return now.stirred(tale, n);
        List<Integer> came = new ArrayList<>();
        int next = tale;
        while (!came.contains(next)) {
            came.add(next);
            next = now.into[next];
        }
        return n == -1 ? came.size() : came.size() - came.indexOf(next);
    }

    public int seen(int bed, int tale) {
        if (!is(tale, 0, 9)) return UNKNOWN;
        if (!is(bed, 0, 40)) return OUTSIDE;
        if (now.sights.size() == 8) return FULL;
        now.sights.add(new int[] {bed, tale});
        return now.sights.size();
    }

    public int forget() {
        int was = now.sights.size();
        now.sights.clear();
        return was;
    }

    private List<Integer> fitting() {
        List<Integer> fit = new ArrayList<>();
        for (int two = 0; two < 100; two++) {
            boolean all = is(two % 10, 1, 5);
            for (int[] sight : now.sights) {
                all = all && now.stirred(two / 10, sight[0] / (two % 10)) == sight[1];
            }
            if (all) fit.add(two);
        }
        return fit;
    }

    public int fits(int i) {
        List<Integer> fit = fitting();
        if (i == -1) return fit.size();
        return is(i, 0, fit.size() - 1) ? fit.get(i) : NONE;
    }

    public int ask(int what) {
        if (!is(what, 0, 1)) return OUTSIDE;
        List<Integer> fit = fitting();
        if (fit.isEmpty()) return NONE;
        TreeMap<Integer, Integer> firstBedOf = new TreeMap<>();
        for (int bed = 0; bed <= 40; bed++) {
            Map<Integer, Integer> left = new HashMap<>();
            for (int two : fit) {
                left.merge(now.stirred(two / 10, bed / (two % 10)), 1, Integer::sum);
            }
            firstBedOf.putIfAbsent(left.values().stream().max(Integer::compare).get(), bed);
        }
        return what == 0 ? firstBedOf.firstEntry().getValue() : firstBedOf.firstKey();
    }

    public long row(int n, int t, int u, int k, int what, int part) {
        boolean told = is(n, 0, 10) && is(t, 0, 10) && is(u, 0, 10) && is(k, 0, n) && is(what, 0, 2) && is(part, 0, 1);
        if (!told) return -1000000000000000000L + OUTSIDE;
        BigInteger upper = BigInteger.ZERO;
        for (int outcome = 0; outcome < 1 << n; outcome++) {
            BigInteger weight = BigInteger.ONE;
            for (int house = 0; house < n; house++) {
                int tenths = house == 0 || (outcome >> (house - 1) & 1) == 1 ? t : u;
                weight = weight.multiply(BigInteger.valueOf((outcome >> house & 1) == 1 ? tenths : 10 - tenths));
            }
            int many = Integer.bitCount(outcome);
            int times = what == 2 ? many : (what == 0 ? many == k : many >= k) ? 1 : 0;
            upper = upper.add(weight.multiply(BigInteger.valueOf(times)));
        }
        BigInteger lower = BigInteger.TEN.pow(n);
        BigInteger common = upper.gcd(lower);
        return (part == 0 ? upper : lower).divide(common).longValueExact();
    }

    private static final Map<Integer, Boolean> PLAYED = new HashMap<>();

    /** Whether who is to take wins, with so many embers and so many at the most. */
    private static boolean wins(int embers, int most) {
        Boolean known = PLAYED.get(embers * 1000 + most);
        if (known != null) return known;
        boolean win = false;
        for (int take = 1; take <= Math.min(embers, most); take++) {
            win = win || take == embers || !wins(embers - take, 2 * take);
        }
        PLAYED.put(embers * 1000 + most, win);
        return win;
    }

    public int embers(int n, int what) {
        if (!is(n, 1, 60) || !is(what, 0, 1)) return OUTSIDE;
        for (int take = 1; take < n; take++) {
            if (!wins(n - take, 2 * take)) return what == 0 ? 1 : take;
        }
        return what == 0 ? 0 : NONE;
    }

    public int year(int seed, int m, int what) {
        if (!is(seed, 0, 9999) || !is(m, 1, 99) || !is(what, 0, 2)) return OUTSIDE;
        World world = now.copy();
        long x = seed;
        for (int i = 0; i < m; i++) {
            x = (75 * x + 74) % 65537;
            long by = x / 8;
            String[] drawn = {"to " + by % 11, "to " + by % 11, "to " + by % 11, "*", "*", "~",
                "=" + by % 10 + (1 + x / 80 % 9), "."};
            world.attempt(drawn[(int) (x % 8)]);
        }
        List<Integer> believed = new ArrayList<>();
        for (Integer tale : world.believes) {
            if (tale != null) believed.add(tale);
        }
        if (what == 0) return believed.size();
        return what == 1 ? new HashSet<>(believed).size() : Arrays.stream(world.doubt).sum();
    }

    public int image(int k) {
        if (!is(k, 0, 1)) return OUTSIDE;
        images[k] = now.copy();
        return 1;
    }

    public int restore(int k) {
        if (!is(k, 0, 1)) return OUTSIDE;
        if (images[k] == null) return STATE;
        now = images[k].copy();
        return 1;
    }

    public int told(int what) {
        Map<Integer, Integer> all = new HashMap<>();
        int[] alone = {pad.length(), now.place, now.heat, now.tale, now.mornings, now.sights.size()};
        for (int i = 0; i < 6; i++) {
            all.put(i, alone[i]);
        }
        for (int i = 0; i < 10; i++) {
            all.put(10 + i, now.into[i]);
            for (int fact = 0; fact < 3; fact++) {
                all.put(100 + 10 * i + fact, fact(now, i, fact));
            }
        }
        for (int one = 0; one < 11; one++) {
            for (int other = 0; other < 11; other++) {
                all.put(1000 + 20 * one + other, now.way(one, other));
            }
        }
        return all.getOrDefault(what, OUTSIDE);
    }
}
