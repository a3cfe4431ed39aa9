import com.sun.management.ThreadMXBean;
import java.lang.management.ManagementFactory;
import java.lang.reflect.Array;
import java.lang.reflect.Field;
import java.lang.reflect.Modifier;
import java.nio.charset.StandardCharsets;
import java.util.ArrayDeque;
import java.util.Arrays;
import java.util.Collections;
import java.util.Deque;
import java.util.IdentityHashMap;
import java.util.Set;

/**
 * All calls of a run live in one room that is never swept: a new object is small, the planner's
 * tables are made once, and no later call makes anything. The dearest calls also end soon.
 */
public final class RoomTest {
    private static final ThreadMXBean THREADS = (ThreadMXBean) ManagementFactory.getThreadMXBean();
    private static int wrong = 0;

    private static void atMost(String what, long got, long most) {
        if (got > most) {
            wrong++;
            System.out.println(what + ": " + got + ", at most " + most + " is due");
        }
    }

    private static long made() {
        return THREADS.getCurrentThreadAllocatedBytes();
    }

    private static int[] packed(String text) {
        byte[] bytes = Arrays.copyOf(text.getBytes(StandardCharsets.ISO_8859_1), 600);
        int[] out = new int[150];
        for (int i = 0; i < 600; i++) {
            out[i / 4] = out[i / 4] << 8 | bytes[i] & 255;
        }
        return out;
    }

    private static int tell(CurtainHouse x, int[] v, int length) {
        for (int i = 0; 20 * i < length; i++) {
            x.feed(v[5 * i], v[5 * i + 1], v[5 * i + 2], v[5 * i + 3], v[5 * i + 4]);
        }
        x.end(length);
        return x.order();
    }

    /** Ten windows of eight panels each, that all but fit into each of twelve flawed bolts. */
    private static String dearText() {
        StringBuilder text = new StringBuilder();
        for (int i = 0; i < 10; i++) {
            text.append("window ").append((char) ('a' + i)).append(":wide 1120 drop ").append(200 + i)
                .append(" face 0 hems ").append(7 * i).append(';');
        }
        return text.toString();
    }

    private static CurtainHouse dearHouse(int length) {
        CurtainHouse x = new CurtainHouse();
        x.cloth(300, 90, true, 0);
        for (int b = 0; b < 12; b++) {
            x.bolt(0, length + 7 * b);
            for (int f = 1; f <= 4; f++) {
                x.flaw(b, f * length / 5 + 3 * b + f);
            }
        }
        return x;
    }

    /** Some 370 calls, so that with those that made the house an object has fewer than 512. */
    private static boolean laterCalls(CurtainHouse x, int[] text, int length, int[] bad) {
        boolean good = tell(x, text, length) == 10;
        for (int i = 0; i < 40; i++) {
            x.plan(0);
            tell(x, bad, 15);
            x.bound(0);
            x.lacks(0);
            x.benches();
            x.bench(0, 1);
        }
        good &= x.cut(0) == 80;
        good &= tell(x, text, length) == 10;
        return good && x.cut(0) == 0 && made() > 0;
    }

    private static void newObject() {
        long before = made();
        CurtainHouse first = new CurtainHouse();
        atMost("bytes of a new object", made() - before, 20000);
        atMost("cloths of a new object", first.about(0), 0);
        before = made();
        CurtainHouse x = dearHouse(20000);
        atMost("bytes of a house with 12 bolts", made() - before, 24000);
        atMost("windows of a house with 12 bolts", x.about(2), 0);
    }

    /** All that an object holds: objects and arrays, and their fields and elements. */
    private static int[] held(Object house) throws IllegalAccessException {
        Set<Object> seen = Collections.newSetFromMap(new IdentityHashMap<>());
        Deque<Object> open = new ArrayDeque<>();
        seen.add(house);
        open.add(house);
        int parts = 0;
        while (!open.isEmpty()) {
            for (Object part : partsOf(open.remove())) {
                parts++;
                if (part != null && !(part instanceof Number) && !(part instanceof Boolean) && seen.add(part)) {
                    open.add(part);
                }
            }
        }
        return new int[] {seen.size(), parts};
    }

    private static Object[] partsOf(Object of) throws IllegalAccessException {
        if (of.getClass().isArray()) {
            Object[] out = new Object[Array.getLength(of)];
            Arrays.setAll(out, i -> Array.get(of, i));
            return out;
        }
        Field[] fields = Arrays.stream(of.getClass().getDeclaredFields())
            .filter(f -> !Modifier.isStatic(f.getModifiers())).toArray(Field[]::new);
        Object[] out = new Object[fields.length];
        for (int f = 0; f < fields.length; f++) {
            fields[f].setAccessible(true);
            out[f] = fields[f].get(of);
        }
        return out;
    }

    /** 512 objects, or as many as can plan something within 512 calls, keep far within the room. */
    private static void objectsAndElements(int[] text, int length) throws IllegalAccessException {
        int[] first = held(new CurtainHouse());
        atMost("objects of a new house", first[0], 240);
        atMost("elements of a new house", first[1], 2800);
        CurtainHouse x = dearHouse(20000);
        tell(x, text, length);
        x.cut(0);
        int[] all = held(x);
        atMost("objects of a house that has planned", all[0], 320);
        atMost("elements of a house that has planned", all[1], 18500);
    }

    private static void callsOfMany(int[] text, int length, int[] bad) {
        CurtainHouse[] houses = new CurtainHouse[10];
        for (int h = 0; h < houses.length; h++) {
            houses[h] = dearHouse(20000);
        }
        long before = made();
        boolean good = true;
        for (CurtainHouse x : houses) {
            good &= tell(x, text, length) == 10;
            x.plan(0);
        }
        atMost("bytes of the first plans", made() - before, 30000 * houses.length);
        before = made();
        for (CurtainHouse x : houses) {
            good &= laterCalls(x, text, length, bad);
        }
        // One object a round would be 6400 bytes at least; the machine itself makes a few now and then.
        atMost("bytes of all later calls", made() - before, 1000);
        atMost("wrong answers", good ? 0 : 1, 0);
    }

    private static void dearestCalls(int[] text, int length) {
        long start = System.nanoTime();
        for (int bolts = 2000; bolts < 24000; bolts += 50) {
            CurtainHouse x = dearHouse(bolts);
            tell(x, text, length);
            x.plan(0);
            x.cut(0);
        }
        atMost("milliseconds of 880 of the dearest calls", (System.nanoTime() - start) / 1000000, 60000);
    }

    public static void main(String[] args) throws IllegalAccessException {
        int[] text = packed(dearText());
        int length = dearText().length();
        int[] bad = packed("window a:wide 1");
        // Once without counting, since the machine makes things of its own when it loads a class.
        laterCalls(dearHouse(20000), text, length, bad);
        newObject();
        objectsAndElements(text, length);
        callsOfMany(text, length, bad);
        dearestCalls(text, length);
        System.out.println(wrong == 0 ? "the room is kept" : wrong + " answers are not as due");
        if (wrong != 0) {
            System.exit(1);
        }
    }
}
