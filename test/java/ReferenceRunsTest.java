import java.lang.reflect.Method;
import java.util.Arrays;
import java.util.Map;

/** All promises: runs of drawn calls on PanTales and on the Reference, which must answer alike. */
public final class ReferenceRunsTest {
    private static final int RUNS = 2500;
    /** Behind these all is told once more: nothing is promised behind the 512th call. */
    private static final int CALLS = 300;
    private static final Map<String, Method> OURS = Runs.callsOf(PanTales.class);
    private static final Map<String, Method> THEIRS = Runs.callsOf(Reference.class);
    private static final int[] ODD = {-7, -6, -3, -2, -1, 10, 11, 12, 40, 41, 60, 61, 99, 100, 127, 1000, 10000,
        Integer.MIN_VALUE, Integer.MAX_VALUE, Integer.MIN_VALUE + 1, Integer.MAX_VALUE - 1};

    private static long drawn = 20261119;
    private static PanTales ours;
    private static Reference theirs;
    private static StringBuilder told;
    private static int calls;
    private static int density;

    /** One of so many, from 0 on; the same ones each time the test is run. */
    private static int draw(int many) {
        drawn = drawn * 6364136223846793005L + 1442695040888963407L;
        return (int) Long.remainderUnsigned(drawn >>> 20, many);
    }

    private static int between(int least, int most) {
        return draw(40) == 0 ? ODD[draw(ODD.length)] : least + draw(most - least + 1);
    }

    public static void main(String[] args) {
        for (int run = 0; run < RUNS; run++) {
            renew();
            density = 1 + draw(12);
            layOut();
            while (calls < CALLS) {
                anyCall();
            }
            tellAll();
        }
        allEmbers();
        for (int i = 0; i < 50; i++) {
            someRows();
        }
        Runs.end();
    }

    private static void renew() {
        ours = new PanTales();
        theirs = new Reference();
        told = new StringBuilder();
        calls = 0;
    }

    private static long both(String name, int... numbers) {
        long want = Runs.call(theirs, THEIRS.get(name), numbers);
        long got = Runs.call(ours, OURS.get(name), numbers);
        calls++;
        told.append(name).append(Arrays.toString(numbers)).append(' ');
        Runs.due("reference", got == want ? name : told.toString(), got, want);
        if (got != want) {
            Runs.end();
        }
        return want;
    }

    private static void layOut() {
        for (int i = 0; i < density * 3; i++) {
            both("road", draw(3) == 0 ? 10 : draw(11), draw(11), 1 + draw(draw(2) == 0 ? 3 : 9));
        }
        for (int house = 0; house < 10; house++) {
            both("house", house, draw(draw(2) == 0 ? 3 : 10), draw(5) == 0 ? 1 : 0);
            both("fade", house, draw(10));
        }
    }

    private static void anyCall() {
        switch (draw(32)) {
            case 0: both("road", between(0, 10), between(0, 10), between(0, 9)); break;
            case 1: both("house", between(0, 9), between(0, 9), between(0, 1)); break;
            case 2: both("tell", between(0, 9), between(-1, 9)); break;
            case 3: both("fade", between(0, 9), between(0, 9)); break;
            case 4: both("say", between(33, 126)); break;
            case 5: case 6: case 7: case 8: case 9: night(); break;
            case 10: both("wipe"); break;
            case 11: both("fault"); break;
            case 12: both("judge", between(0, 2)); break;
            case 13: both("behind", between(0, 9), between(0, 2)); break;
            case 14: both("pan", between(0, 3)); break;
            case 15: both("holds", between(0, 9)); break;
            case 16: both("other", between(0, 1)); break;
            case 17: both("done"); break;
            case 18: both("near", between(0, 10), between(0, 10), between(0, 1)); break;
            case 19: both("round", between(0, density > 6 ? 60 : 99), between(0, 1)); break;
            case 20: both("keep", between(0, 9), between(0, 1)); break;
            case 21: both("faded", between(0, 9), between(-2, 99)); break;
            case 22: sight(); break;
            case 23: both("forget"); break;
            case 24: case 25: both("fits", draw(3) == 0 ? -1 : between(-1, draw(2) == 0 ? 6 : 50)); break;
            case 26: both("ask", between(0, 1)); break;
            case 27: both("embers", between(1, 60), between(0, 1)); break;
            case 28: case 29: both("year", between(0, 9999), between(1, 99), between(0, 2)); break;
            case 30: both(draw(2) == 0 ? "image" : "restore", between(0, 1)); break;
            default: both("told", toldNumber()); break;
        }
    }

    private static int toldNumber() {
        switch (draw(4)) {
            case 0: return between(0, 20);
            case 1: return between(95, 205);
            case 2: return between(990, 1240);
            default: return 1000 + 20 * draw(11) + draw(11);
        }
    }

    /** Mostly what could have been said in the KITCHEN, so that something is left that fits. */
    private static void sight() {
        int bed = between(0, 40);
        long believed = draw(2) == 0 ? draw(10) : Runs.call(theirs, THEIRS.get("faded"), draw(10), draw(20));
        both("seen", bed, draw(30) == 0 ? between(0, 9) : (int) believed);
    }

    /** Mostly acts that can be: it is asked where the PAN is, and which ROADS lead on from there. */
    private static void night() {
        if (draw(4) == 0 || theirs.judge(0) != -6) {
            both("wipe");
        }
        int acts = 1 + draw(12);
        for (int i = 0; i < acts; i++) {
            long place = Runs.call(theirs, THEIRS.get("pan"), 0);
            sayAct((int) place);
        }
        both("judge", draw(3));
        both("other", draw(2));
        both("pan", draw(4));
        if (draw(3) == 0) {
            both("done");
        }
    }

    private static void sayAct(int place) {
        if (draw(60) == 0) {
            both("say", "=ABCDEFGHIJk*~.0".charAt(draw(16)));
        } else if (place == 10 && draw(3) > 0) {
            both("say", '=');
            both("say", '0' + draw(10));
            both("say", '1' + draw(9));
        } else if (place >= 0 && draw(2) == 0) {
            carry(place);
        } else {
            both("say", "***~~.".charAt(draw(6)));
        }
    }

    private static void carry(int place) {
        int first = draw(11);
        for (int i = 0; i < 11; i++) {
            int to = (first + i) % 11;
            if (theirs.told(1000 + 20 * place + to) > 0) {
                both("say", "ABCDEFGHIJk".charAt(to));
                return;
            }
        }
    }

    private static void tellAll() {
        for (int what = 0; what < 200; what++) {
            if (what < 20 || (what >= 100 && what % 10 < 3)) {
                both("told", what);
            }
        }
        for (int one = 0; one <= 10; one++) {
            for (int other = 0; other <= 10; other++) {
                both("told", 1000 + 20 * one + other);
            }
        }
    }

    private static void allEmbers() {
        renew();
        for (int n = 1; n <= 60; n++) {
            both("embers", n, 0);
            both("embers", n, 1);
        }
    }

    /** Small ones mostly: the Reference tries all outcomes. */
    private static void someRows() {
        renew();
        for (int i = 0; i < 400; i++) {
            int n = between(0, i % 20 == 0 ? 10 : 5);
            int k = between(0, Math.max(0, Math.min(n, 10)));
            both("row", n, between(0, 10), between(0, 10), k, between(0, 2), between(0, 1));
        }
    }
}
