import com.sun.management.ThreadMXBean;
import java.lang.management.ManagementFactory;
import java.nio.charset.StandardCharsets;
import java.util.Arrays;

/**
 * All calls of a run live in one room that is never swept: a new object is small, the planner's
 * tables are made once, and no later call makes anything. The dearest calls also end soon.
 */
public final class RoomTest {
    private static final ThreadMXBean THREADS = (ThreadMXBean) ManagementFactory.getThreadMXBean();
    private static int wrong = 0;

    private static void atMost(String what, long got, long most) {
        if (got > most) {
            wrong++;
            System.out.println(what + ": " + got + ", at most " + most + " is due");
        }
    }

    private static long made() {
        return THREADS.getCurrentThreadAllocatedBytes();
    }

    private static int[] packed(String text) {
        byte[] bytes = Arrays.copyOf(text.getBytes(StandardCharsets.ISO_8859_1), 600);
        int[] out = new int[150];
        for (int i = 0; i < 600; i++) {
            out[i / 4] = out[i / 4] << 8 | bytes[i] & 255;
        }
        return out;
    }

    private static int tell(CurtainHouse x, int[] v, int length) {
        for (int i = 0; i < 30; i++) {
            x.feed(v[5 * i], v[5 * i + 1], v[5 * i + 2], v[5 * i + 3], v[5 * i + 4]);
        }
        x.end(length);
        return x.order();
    }

    /** Ten windows of eight panels each, that all but fit into each of twelve flawed bolts. */
    private static String dearText() {
        StringBuilder text = new StringBuilder();
        for (int i = 0; i < 10; i++) {
            text.append("window ").append((char) ('a' + i)).append(":wide 1120 drop ").append(200 + i)
                .append(" face 0 hems ").append(7 * i).append(';');
        }
        return text.toString();
    }

    private static CurtainHouse dearHouse(int length) {
        CurtainHouse x = new CurtainHouse();
        x.cloth(300, 90, true, 0);
        for (int b = 0; b < 12; b++) {
            x.bolt(0, length + 7 * b);
            for (int f = 1; f <= 4; f++) {
                x.flaw(b, f * length / 5 + 3 * b + f);
            }
        }
        return x;
    }

    private static boolean laterCalls(CurtainHouse x, int[] text, int length, int[] bad, int times) {
        boolean good = tell(x, text, length) == 10;
        for (int i = 0; i < times; i++) {
            x.plan(0);
            tell(x, bad, 15);
            x.bound(0);
            x.lacks(0);
            x.benches();
            x.bench(0, 1);
        }
        good &= x.cut(0) == 80;
        good &= tell(x, text, length) == 10;
        return good && x.cut(0) == 0 && made() > 0;
    }

    public static void main(String[] args) {
        int[] text = packed(dearText());
        int length = dearText().length();
        int[] bad = packed("window a:wide 1");
        // Once without counting, since the machine makes things of its own when it loads a class.
        laterCalls(dearHouse(20000), text, length, bad, 1);
        long before = made();
        CurtainHouse first = new CurtainHouse();
        atMost("bytes of a new object", made() - before, 20000);
        atMost("cloths of a new object", first.about(0), 0);
        before = made();
        CurtainHouse x = dearHouse(20000);
        atMost("bytes of a house with 12 bolts", made() - before, 24000);
        before = made();
        long start = System.nanoTime();
        if (tell(x, text, length) != 10) {
            atMost("windows that were not read", 10, 0);
        }
        x.plan(0);
        atMost("bytes of the first plan", made() - before, 30000);
        before = made();
        if (!laterCalls(x, text, length, bad, 200)) {
            atMost("wrong cuts", 1, 0);
        }
        // One object a round would be 3200 bytes at least; the machine itself makes a few now and then.
        atMost("bytes of all later calls", made() - before, 1000);
        for (int bolts = 2000; bolts < 24000; bolts += 500) {
            CurtainHouse y = dearHouse(bolts);
            tell(y, text, length);
            y.plan(0);
            y.cut(0);
        }
        atMost("milliseconds of some 300 of the dearest calls", (System.nanoTime() - start) / 1000000, 60000);
        System.out.println(wrong == 0 ? "the room is kept" : wrong + " answers are not as due");
        if (wrong != 0) {
            System.exit(1);
        }
    }
}
