import java.lang.management.ManagementFactory;
import java.lang.reflect.Method;
import java.util.List;
import java.util.function.IntConsumer;

/** All calls of one run live in one room: behind what is made once, no call makes an object or a row. */
public final class RoomTest {
    private static final int CALLS = 512;
    /** Below this, 512 calls can not have made one object each, of 16 bytes at the least. */
    private static final long SMALL = 4096;
    private static final com.sun.management.ThreadMXBean MADE =
            (com.sun.management.ThreadMXBean) ManagementFactory.getThreadMXBean();

    private static PanTales close;
    private static long sum;

    public static void main(String[] args) {
        List<String> names = List.of("road", "house", "tell", "fade", "say", "wipe", "fault", "judge", "behind", "pan",
                "holds", "other", "done", "near", "round", "keep", "faded", "seen", "forget", "fits", "ask", "row",
                "embers", "year", "image", "restore", "told");
        for (Method method : PanTales.class.getDeclaredMethods()) {
            boolean open = java.lang.reflect.Modifier.isPublic(method.getModifiers());
            Runs.due("room", "asked of " + method.getName(), !open || names.contains(method.getName()) ? 1 : 0, 1);
        }
        for (int each = 0; each < names.size(); each++) {
            ask(names.get(each), callOf(each));
        }
        whole();
        Runs.end();
    }

    /** What one object makes in all: the large row once, and two images. */
    private static void whole() {
        long before = MADE.getCurrentThreadAllocatedBytes();
        layOut();
        sum += close.round(99, 0) + close.round(50, 1) + close.image(0) + close.image(1);
        long made = MADE.getCurrentThreadAllocatedBytes() - before;
        Runs.due("room", "an object makes " + made + " bytes in all; at most 64000", made <= 64000 ? 1 : 0, 1);
    }

    /** Once on an object that is thrown away, for what the machine itself makes at first; then on one to be measured. */
    private static void ask(String name, IntConsumer call) {
        for (int time = 0; time < 2; time++) {
            layOut();
            call.accept(0);
            call.accept(1);
            long before = MADE.getCurrentThreadAllocatedBytes();
            for (int i = 0; i < CALLS; i++) {
                call.accept(i);
            }
            long made = MADE.getCurrentThreadAllocatedBytes() - before;
            if (time == 1) {
                Runs.due("room", name + " made " + made + " bytes in 512 calls; small", made < SMALL ? 1 : 0, 1);
            }
        }
    }

    private static void layOut() {
        close = new PanTales();
        for (int place = 0; place < 10; place++) {
            close.road(10, place, 1 + place % 9);
            close.road(place, (place + 1) % 10, 2);
            close.house(place, place % 4, 0);
            close.fade(place, (place + 3) % 10);
        }
        close.seen(4, 4);
        for (char sign : "=76A*~B*".toCharArray()) {
            close.say(sign);
        }
    }

    /** By its place among the names; each with numbers that are told and, now and then, with one that is refused. */
    private static IntConsumer callOf(int each) {
        switch (each) {
            case 0: return i -> sum += close.road(i % 11, i % 12, i % 11);
            case 1: return i -> sum += close.house(i % 11, i % 11, i % 3);
            case 2: return i -> sum += close.tell(i % 11, i % 12 - 1);
            case 3: return i -> sum += close.fade(i % 11, i % 12);
            case 4: return i -> sum += close.say(i % 128);
            case 5: return i -> sum += close.wipe();
            case 6: return i -> sum += close.fault();
            case 7: return i -> sum += close.judge(i % 4);
            case 8: return i -> sum += close.behind(i % 11, i % 4);
            case 9: return i -> sum += close.pan(i % 5);
            case 10: return i -> sum += close.holds(i % 11);
            case 11: return i -> sum += close.other(i % 3);
            case 12: return i -> sum += close.done();
            case 13: return i -> sum += close.near(i % 12, i % 11, i % 3);
            case 14: return i -> sum += close.round(i % 101, i % 3);
            case 15: return i -> sum += close.keep(i % 11, i % 3);
            case 16: return i -> sum += close.faded(i % 11, i % 104 - 3);
            case 17: return i -> sum += close.seen(i % 42, i % 11);
            case 18: return i -> sum += close.forget();
            case 19: return i -> sum += close.fits(i % 60 - 2);
            case 20: return i -> sum += close.ask(i % 3);
            case 21: return i -> sum += close.row(i % 12, i % 11, 3, 0, i % 3, i % 2);
            case 22: return i -> sum += close.embers(i % 62, i % 3);
            case 23: return i -> sum += close.year(i, 1 + i % 99, i % 4);
            case 24: return i -> sum += close.image(i % 3);
            case 25: return i -> sum += close.restore(i % 3);
            default: return i -> sum += close.told(i * 3);
        }
    }
}
