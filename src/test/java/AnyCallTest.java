import java.util.ArrayList;
import java.util.List;
import java.util.Random;
import java.util.function.ToIntFunction;

/**
 * Any calls with any numbers, in any state (fixed seeds): none throws, all end, only plan and cut ever
 * answer -2 and none less, and a second object that is asked the same answers the same.
 */
public final class AnyCallTest {
    private static final int TOO_MANY_ITEMS = -2;
    private static final int RUNS = 1500;
    private static int wrong = 0;

    private record Call(String name, boolean plans, ToIntFunction<House> asked) { }

    private static final int[] NUMBERS = {0, 0, 0, 1, 1, 2, 3, 4, 5, 6, 7, 8, 9, 10, 11, 12, 13, 14, 20, 99, 100, 119,
        200, 299, 300, 301, 400, 599, 600, 601, 800, 1000, 2000, 5000, 60000, 60001, 1 << 16, 1 << 30};

    private static final String[] SHREDS = {"window", "window a:", "window b:", "window c:", ":", ";", "wide 100",
        "wide 140", "wide 1120 ", "wide 5000 5000", "drop 200", "drop 5000", "face 0", "face 0", "face 1", "lining 0",
        "lining 1", "full 100", "full 400", "hems 0", "hems 1000", "split", "split", " ", "\n", "9", "0", "?", "\u00ff"};

    private static final String[] WINDOWS = {"wide 140 drop 200 face 0;", "wide 1120 drop 200 face 0 hems 0 split;",
        "wide 280 drop 300 face 0 lining 0;", "wide 420 drop 250 face 1 lining 0 split;",
        "wide 5000 5000 5000 100 drop 5000 face 2 full 100;", "wide 100 drop 200 face 0 lining 2 hems 1000;"};

    private static int number(Random r) {
        int luck = r.nextInt(40);
        if (luck == 0) {
            return r.nextInt();
        }
        if (luck == 1) {
            return r.nextBoolean() ? Integer.MIN_VALUE + r.nextInt(3) : Integer.MAX_VALUE - r.nextInt(3);
        }
        int n = NUMBERS[r.nextInt(NUMBERS.length)];
        return luck < 5 ? -n : luck < 8 ? n + r.nextInt(3) - 1 : n;
    }

    /** A number that a thing may have, most of the time. */
    private static int low(Random r) {
        return r.nextInt(6) == 0 ? number(r) : r.nextInt(4);
    }

    private static String text(Random r) {
        StringBuilder out = new StringBuilder();
        int parts = r.nextInt(7);
        boolean good = r.nextInt(4) > 0;
        for (int i = 0; i < parts; i++) {
            out.append(good ? "window " + (char) ('a' + i) + ":" + WINDOWS[r.nextInt(WINDOWS.length)]
                : SHREDS[r.nextInt(SHREDS.length)] + " ");
        }
        return out.toString();
    }

    private static Call next(Random r) {
        int a = number(r);
        int b = number(r);
        int c = low(r);
        int d = low(r);
        int e = low(r);
        int f = number(r);
        boolean yes = r.nextBoolean();
        String text = text(r);
        int length = r.nextInt(3) == 0 ? 60000 : 100 + r.nextInt(3000);
        switch (r.nextInt(26)) {
            case 0: return new Call("cloth", false, x -> x.cloth(a, b, yes, d));
            case 1: return new Call("cloth", false, x -> x.cloth(300 + 10 * e, 2 * (e + 10), yes, 0));
            case 2: return new Call("bolt", false, x -> x.bolt(c, a));
            case 3: return new Call("bolt", false, x -> x.bolt(c, length));
            case 4: return new Call("flaw", false, x -> x.flaw(c, a));
            case 5: return new Call("boltOf", false, x -> x.boltOf(c, a));
            case 6: return new Call("feed", false, x -> x.feed(a, b, c, d, f));
            case 7: return new Call("end", false, x -> x.end(a));
            // Mostly the tape is empty then, and so is the order.
            case 8: return new Call("order", false, x -> a % 5 == 1 ? x.order() : x.bench(e, d));
            case 9: return new Call("fault", false, x -> x.fault(c));
            case 10: return new Call("window", false, x -> x.window(c, a));
            case 11: return new Call("layer", false, x -> x.layer(c, d, e));
            case 12: return new Call("pleat", false, x -> x.pleat(c, a, yes));
            case 13: return new Call("drop", false, x -> x.drop(c, d, e, low(new Random(a))));
            case 14: return new Call("lost", false, x -> x.lost());
            case 15: return new Call("plan", true, x -> x.plan(c));
            case 16: return new Call("bound", false, x -> x.bound(c));
            case 17: return new Call("cut", true, x -> x.cut(c));
            case 18: return new Call("lacks", false, x -> x.lacks(c));
            case 19: return new Call("benches", false, x -> x.benches());
            case 20: return new Call("bench", false, x -> x.bench(c, d));
            case 21: return new Call("about", false, x -> x.about(c));
            case 22: return new Call("cut", true, x -> x.cut(0));
            case 23: return new Call("cut", true, x -> x.cut(e));
            case 24: return new Call("drop", false, x -> x.drop(d, 0, c, e));
            default: return new Call("tell " + text, false, x -> {
                x.end(0);
                return x.tell(text);
            });
        }
    }

    /** So that texts are read well and drops are cut from the beginning on. */
    private static void stock(House x) {
        x.cloth(300, 100, true, 0);
        x.cloth(500, 0, false, 200);
        x.cloth(2000, 800, false, 3);
        for (int b = 0; b < 6; b++) {
            x.bolt(b % 3, 3000 + 7000 * b);
            x.flaw(b, 1000 * b);
        }
    }

    private static void run(long seed) {
        Random r = new Random(seed);
        House one = new House();
        House other = new House();
        List<String> done = new ArrayList<>();
        if (seed % 4 != 0) {
            stock(one);
            stock(other);
        }
        // A text is 33 calls at most.
        while (one.left() > 33) {
            Call call = next(r);
            done.add(call.name());
            try {
                int answer = call.asked().applyAsInt(one);
                must(answer >= (call.plans() ? TOO_MANY_ITEMS : CurtainHouse.NONE), seed, done, "answered " + answer);
                must(answer == call.asked().applyAsInt(other), seed, done, "answers two objects in two ways");
            } catch (RuntimeException thrown) {
                must(false, seed, done, "threw " + thrown);
                return;
            }
        }
    }

    private static void must(boolean fine, long seed, List<String> done, String what) {
        if (!fine) {
            wrong++;
            System.out.println("seed " + seed + ", call " + done.size() + ", " + done.get(done.size() - 1) + ": " + what);
        }
    }

    public static void main(String[] args) {
        long first = args.length > 0 ? Long.parseLong(args[0]) : 1;
        for (long seed = first; seed < first + RUNS; seed++) {
            run(seed);
        }
        System.out.println(wrong == 0 ? "no call throws" : wrong + " answers are not as due");
        if (wrong != 0) {
            System.exit(1);
        }
    }
}
