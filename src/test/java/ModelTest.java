import java.util.ArrayList;
import java.util.Arrays;
import java.util.Comparator;
import java.util.HashMap;
import java.util.List;
import java.util.Map;
import java.util.Random;
import java.util.function.ToIntFunction;
import java.util.regex.Matcher;
import java.util.regex.Pattern;

/**
 * Runs of random calls (of fixed seeds) against a second house that is written straight from the
 * document and tries every way and every order, without any of the class's short cuts.
 */
public final class ModelTest {
    private static int wrong = 0;

    /** A cut drop. */
    record Cut(int bolt, int place, int length) { }

    static final class Cloth {
        int number, width, repeat, shrink;
        boolean half;
    }

    static final class Bolt {
        int number, cloth, length, used;
        List<Integer> flaws = new ArrayList<>();
    }

    static final class Layer {
        Cloth cloth;
        int panels, length;
        Cut[] cuts;
    }

    static final class Window {
        String name;
        Integer wide, drop, face, lining, full, hems;
        boolean split;
        Layer[] layers = new Layer[2];
    }

    record Item(Layer layer, List<Integer> panels, int only) { }

    /** An item that is cut from a bolt, from a place on. */
    record Cutting(Item item, int bolt, int from) { }

    static final class Fault extends RuntimeException {
        private static final long serialVersionUID = 1L;
        final int kind, place;
        Fault(int kind, int place) {
            this.kind = kind;
            this.place = place;
        }
    }

    record Token(String text, int place) { }

    /** The second house. */
    static final class Model {
        List<Cloth> cloths = new ArrayList<>();
        List<Bolt> bolts = new ArrayList<>();
        List<Window> windows = new ArrayList<>();
        int lost = 0, fault = -1, place = -1;

        // ---- reading

        List<Token> tokens(String text) {
            List<Token> out = new ArrayList<>();
            Matcher m = Pattern.compile("[a-zA-Z]+|[0-9]+|[^ \n]", Pattern.DOTALL).matcher(text);
            while (m.find()) {
                out.add(new Token(m.group(), m.start()));
            }
            out.add(new Token("", text.length()));
            return out;
        }

        static boolean isName(String t) {
            return t.matches("[a-zA-Z]{1,8}")
                && !List.of("window", "wide", "drop", "face", "lining", "full", "hems", "split").contains(t);
        }

        static boolean isNumber(String t) {
            return t.matches("[0-9]+");
        }

        int number(Token t, int low, int high) {
            if (!isNumber(t.text)) {
                throw new Fault(1, t.place);
            }
            java.math.BigInteger v = new java.math.BigInteger(t.text);
            if (v.compareTo(java.math.BigInteger.valueOf(low)) < 0
                || v.compareTo(java.math.BigInteger.valueOf(high)) > 0) {
                throw new Fault(3, t.place);
            }
            return v.intValue();
        }

        static void must(boolean fine, int kind, Token at) {
            if (!fine) {
                throw new Fault(kind, at.place);
            }
        }

        List<Window> parse(String text) {
            List<Token> ts = tokens(text);
            List<Window> out = new ArrayList<>();
            int i = 0;
            while (!ts.get(i).text.isEmpty()) {
                must(ts.get(i).text.equals("window"), 1, ts.get(i));
                i++;
                Token name = ts.get(i++);
                must(isName(name.text), 1, name);
                for (Window w : out) {
                    must(!w.name.equals(name.text), 2, name);
                }
                must(out.size() < 12, 4, name);
                Window w = new Window();
                w.name = name.text;
                must(ts.get(i).text.equals(":"), 1, ts.get(i));
                i++;
                while (!ts.get(i).text.equals(";")) {
                    i = part(ts, i, w);
                }
                must(w.wide != null && w.drop != null && w.face != null, 5, ts.get(i));
                finish(w);
                must(w.layers[0].panels <= 8, 5, ts.get(i));
                must(w.layers[1] == null || w.layers[1].panels <= 8, 5, ts.get(i));
                out.add(w);
                i++;
            }
            return out;
        }

        int part(List<Token> ts, int at, Window w) {
            int i = at;
            Token word = ts.get(i++);
            switch (word.text) {
                case "wide" -> {
                    must(w.wide == null, 2, word);
                    w.wide = number(ts.get(i++), 100, 5000);
                    int sides = 1;
                    while (isNumber(ts.get(i).text)) {
                        w.wide += number(ts.get(i), 100, 5000);
                        must(++sides <= 8, 4, ts.get(i));
                        i++;
                    }
                }
                case "drop" -> {
                    must(w.drop == null, 2, word);
                    w.drop = number(ts.get(i++), 200, 5000);
                }
                case "face" -> {
                    must(w.face == null, 2, word);
                    w.face = number(ts.get(i++), 0, cloths.size() - 1);
                }
                case "lining" -> {
                    must(w.lining == null, 2, word);
                    w.lining = number(ts.get(i++), 0, cloths.size() - 1);
                }
                case "full" -> {
                    must(w.full == null, 2, word);
                    w.full = number(ts.get(i++), 100, 400);
                }
                case "hems" -> {
                    must(w.hems == null, 2, word);
                    w.hems = number(ts.get(i++), 0, 1000);
                }
                case "split" -> {
                    must(!w.split, 2, word);
                    w.split = true;
                }
                default -> throw new Fault(1, word.place);
            }
            return i;
        }

        void finish(Window w) {
            if (w.full == null) {
                w.full = 200;
            }
            if (w.hems == null) {
                w.hems = 300;
            }
            for (int l = 0; l < 2; l++) {
                Integer c = l == 0 ? w.face : w.lining;
                if (c == null) {
                    continue;
                }
                Layer y = new Layer();
                y.cloth = cloths.get(c);
                // The least number of panels that is enough, by trying.
                while ((long) y.panels * (y.cloth.width - 20) * 100 < (long) w.wide * w.full) {
                    y.panels++;
                }
                while ((long) y.length * (1000 - y.cloth.shrink) < (w.drop + w.hems) * 1000L) {
                    y.length++;
                }
                y.cuts = new Cut[Math.max(8, y.panels)];
                w.layers[l] = y;
            }
        }

        int order(String text) {
            List<Window> fresh;
            try {
                fresh = parse(text);
            } catch (Fault f) {
                fault = f.kind;
                place = f.place;
                return -1;
            }
            fault = 0;
            place = -1;
            int before = cutDrops(windows);
            for (Window w : fresh) {
                for (Window old : windows) {
                    for (int l = 0; l < 2; l++) {
                        if (old.name.equals(w.name) && old.layers[l] != null && w.layers[l] != null) {
                            keep(old.layers[l], w.layers[l], w.split);
                        }
                    }
                }
            }
            windows = fresh;
            lost += before - cutDrops(windows);
            return windows.size();
        }

        static void keep(Layer old, Layer now, boolean split) {
            if (old.cloth != now.cloth) {
                return;
            }
            int lowest = 99;
            for (int p = 0; p < now.panels; p++) {
                Cut c = old.cuts[p];
                if (c != null && now.length <= c.length) {
                    now.cuts[p] = c;
                    lowest = Math.min(lowest, c.bolt);
                }
            }
            for (int p = 0; p < now.panels && !split; p++) {
                if (now.cuts[p] != null && now.cuts[p].bolt != lowest) {
                    now.cuts[p] = null;
                }
            }
        }

        static int cutDrops(List<Window> of) {
            int n = 0;
            for (Window w : of) {
                for (Layer y : w.layers) {
                    for (int p = 0; y != null && p < y.panels; p++) {
                        n += y.cuts[p] != null ? 1 : 0;
                    }
                }
            }
            return n;
        }

        // ---- planning

        List<Item> items(int cloth) {
            List<Item> out = new ArrayList<>();
            for (Window w : windows) {
                for (Layer y : w.layers) {
                    if (y == null || y.cloth.number != cloth) {
                        continue;
                    }
                    List<Integer> lacking = new ArrayList<>();
                    int only = -1;
                    for (int p = 0; p < y.panels; p++) {
                        if (y.cuts[p] == null) {
                            lacking.add(p);
                        } else {
                            only = y.cuts[p].bolt;
                        }
                    }
                    if (w.split) {
                        for (int p : lacking) {
                            out.add(new Item(y, List.of(p), -1));
                        }
                    } else if (!lacking.isEmpty()) {
                        out.add(new Item(y, lacking, only));
                    }
                }
            }
            return out;
        }

        static boolean lies(Layer y, int panel, Bolt b, int s) {
            int r = y.cloth.repeat;
            int phase = y.cloth.half && panel % 2 == 1 ? r / 2 : 0;
            if (s < 0 || s + y.length > b.length || (r > 0 && (s - phase) % r != 0)) {
                return false;
            }
            for (int f : b.flaws) {
                if (f >= s && f <= s + y.length - 1) {
                    return false;
                }
            }
            return true;
        }

        final Map<Cutting, Integer> known = new HashMap<>();

        /** The first place at which the drop lies: place by place. */
        static int first(Layer y, int panel, Bolt b, int from) {
            for (int s = from; s + y.length <= b.length; s++) {
                if (lies(y, panel, b, s)) {
                    return s;
                }
            }
            return -1;
        }

        int endOf(Item it, Bolt b, int from) {
            if (it.only != -1 && it.only != b.number) {
                return -1;
            }
            Cutting key = new Cutting(it, b.number, from);
            Integer got = known.get(key);
            if (got != null) {
                return got;
            }
            int at = from;
            for (int p : it.panels) {
                int s = first(it.layer, p, b, at);
                if (s < 0) {
                    at = -1;
                    break;
                }
                at = s + it.layer.length;
            }
            known.put(key, at);
            return at;
        }

        /** Best end and the first order that has it, or null: all orders, lower items first. */
        int[] bestOrder(List<Item> items, Bolt b, int mask) {
            int n = Integer.bitCount(mask);
            int[][] best = {null};
            int[] bestEnd = {Integer.MAX_VALUE};
            permute(items, b, mask, b.used, new int[n], 0, best, bestEnd);
            return best[0];
        }

        void permute(List<Item> items, Bolt b, int mask, int at, int[] so, int n, int[][] best, int[] bestEnd) {
            if (mask == 0) {
                if (at < bestEnd[0]) {
                    bestEnd[0] = at;
                    best[0] = so.clone();
                }
                return;
            }
            for (int i = 0; i < items.size(); i++) {
                if ((mask & 1 << i) != 0) {
                    int e = endOf(items.get(i), b, at);
                    if (e >= 0) {
                        so[n] = i;
                        permute(items, b, mask ^ 1 << i, e, so, n + 1, best, bestEnd);
                    }
                }
            }
        }

        int[] planSets;
        int[][] planOrders;
        List<Item> planItems;

        int plan(int cloth) {
            if (cloth < 0 || cloth >= cloths.size()) {
                return -1;
            }
            List<Item> items = items(cloth);
            planItems = items;
            planSets = new int[bolts.size()];
            planOrders = new int[bolts.size()][];
            if (items.isEmpty()) {
                return 0;
            }
            if (items.size() > 10) {
                return -2;
            }
            known.clear();
            int n = items.size();
            int[][][] orders = new int[bolts.size()][1 << n][];
            for (Bolt b : bolts) {
                for (int mask = 0; b.cloth == cloth && mask < 1 << n; mask++) {
                    orders[b.number][mask] = bestOrder(items, b, mask);
                }
            }
            int[][] best = {null};
            assign(orders, cloth, 0, n, new int[bolts.size()], best);
            if (best[0] == null) {
                return -1;
            }
            planSets = best[0];
            for (Bolt b : bolts) {
                planOrders[b.number] = planSets[b.number] == 0 ? null : orders[b.number][planSets[b.number]];
            }
            return used(planSets);
        }

        static int used(int[] sets) {
            int n = 0;
            for (int s : sets) {
                n += s != 0 ? 1 : 0;
            }
            return n;
        }

        static boolean better(int[] a, int[] b) {
            if (b == null || used(a) != used(b)) {
                return b == null || used(a) < used(b);
            }
            return Arrays.compare(a, b) > 0;
        }

        void assign(int[][][] orders, int cloth, int i, int n, int[] sets, int[][] best) {
            if (i == n) {
                if (better(sets, best[0])) {
                    best[0] = sets.clone();
                }
                return;
            }
            for (Bolt b : bolts) {
                if (b.cloth == cloth && orders[b.number][sets[b.number] | 1 << i] != null) {
                    sets[b.number] |= 1 << i;
                    assign(orders, cloth, i + 1, n, sets, best);
                    sets[b.number] ^= 1 << i;
                }
            }
        }

        int cut(int cloth) {
            int found = plan(cloth);
            if (found <= 0) {
                return found;
            }
            int drops = 0;
            for (Bolt b : bolts) {
                if (planOrders[b.number] == null) {
                    continue;
                }
                for (int i : planOrders[b.number]) {
                    Item it = planItems.get(i);
                    for (int p : it.panels) {
                        int s = first(it.layer, p, b, b.used);
                        it.layer.cuts[p] = new Cut(b.number, s, it.layer.length);
                        b.used = s + it.layer.length;
                        drops++;
                    }
                }
            }
            return drops;
        }

        int lacks(int cloth) {
            if (cloth < 0 || cloth >= cloths.size()) {
                return -1;
            }
            int sum = 0;
            for (Item it : items(cloth)) {
                sum += it.panels.size() * it.layer.length;
            }
            return sum;
        }

        int bound(int cloth) {
            int want = lacks(cloth);
            if (want <= 0) {
                return want;
            }
            List<Integer> free = new ArrayList<>();
            for (Bolt b : bolts) {
                if (b.cloth == cloth) {
                    free.add(b.length - b.used);
                }
            }
            free.sort(Comparator.reverseOrder());
            int m = 0;
            for (int f : free) {
                want -= f;
                m++;
                if (want <= 0) {
                    return m;
                }
            }
            return -1;
        }

        // ---- benches

        int pleats(Window w) {
            return w.wide < 240 ? 1 : w.wide / 120;
        }

        int[] minutes(Window w) {
            return new int[] {10 + w.layers[0].panels * (w.drop / 100), 5 + 2 * pleats(w)};
        }

        List<int[]> bench() {
            List<int[]> rows = new ArrayList<>();
            for (int w = 0; w < windows.size(); w++) {
                boolean all = true;
                for (Layer y : windows.get(w).layers) {
                    for (int p = 0; y != null && p < y.panels; p++) {
                        all &= y.cuts[p] != null;
                    }
                }
                if (all) {
                    int[] m = minutes(windows.get(w));
                    rows.add(new int[] {w, m[0], m[1], 0});
                }
            }
            List<int[]> rising = new ArrayList<>(rows.stream().filter(r -> r[1] <= r[2]).toList());
            List<int[]> falling = new ArrayList<>(rows.stream().filter(r -> r[1] > r[2]).toList());
            rising.sort(Comparator.<int[]>comparingInt(r -> r[1]).thenComparingInt(r -> r[0]));
            falling.sort(Comparator.<int[]>comparingInt(r -> -r[2]).thenComparingInt(r -> r[0]));
            rising.addAll(falling);
            int one = 0;
            int two = 0;
            for (int[] r : rising) {
                one += r[1];
                two = Math.max(one, two) + r[2];
                r[3] = two;
            }
            return rising;
        }
    }

    // ---- comparing

    private static String trace = "";
    private static int longest = 5000;

    private static void due(String call, long got, long want) {
        if (got != want) {
            wrong++;
            if (wrong <= 20) {
                System.out.println(trace + call + " answered " + got + ", due is " + want);
            }
        }
    }

    /**
     * Houses that have all taken the same steps: where one has been asked as often as is promised,
     * the next one takes its steps and is asked on.
     */
    static final class Houses {
        /** A text of 600 bytes, and all else is less. */
        private static final int DEAREST_STEP = 32;
        private final List<ToIntFunction<House>> steps = new ArrayList<>();
        private House house = new House();
        private int callsOfSteps = 0;

        House ask() {
            if (house.left() == 0) {
                house = another();
            }
            return house;
        }

        /** What a step answers, which may change the house. */
        int take(ToIntFunction<House> step) {
            if (house.left() < DEAREST_STEP) {
                house = another();
            }
            int before = house.left();
            int answer = step.applyAsInt(house);
            callsOfSteps += before - house.left();
            steps.add(step);
            return answer;
        }

        private House another() {
            House out = new House();
            for (ToIntFunction<House> step : steps) {
                step.applyAsInt(out);
            }
            return out;
        }

        /** Whether the steps alone are so many calls that little can be asked behind them. */
        boolean tired() {
            return callsOfSteps > 400;
        }
    }

    private static void compare(Houses x, Model m) {
        due("lost()", x.ask().lost(), m.lost);
        due("fault(0)", x.ask().fault(0), m.fault);
        due("fault(1)", x.ask().fault(1), m.place);
        due("about(0)", x.ask().about(0), m.cloths.size());
        due("about(1)", x.ask().about(1), m.bolts.size());
        due("about(2)", x.ask().about(2), m.windows.size());
        for (int b = -1; b <= 12; b++) {
            Bolt bolt = b >= 0 && b < m.bolts.size() ? m.bolts.get(b) : null;
            due("boltOf(" + b + ", 0)", x.ask().boltOf(b, 0), bolt == null ? -1 : bolt.cloth);
            due("boltOf(" + b + ", 1)", x.ask().boltOf(b, 1), bolt == null ? -1 : bolt.length);
            due("boltOf(" + b + ", 2)", x.ask().boltOf(b, 2), bolt == null ? -1 : bolt.used);
            due("boltOf(" + b + ", 3)", x.ask().boltOf(b, 3), bolt == null ? -1 : bolt.flaws.size());
        }
        for (int w = -1; w <= 12; w++) {
            compareWindow(x, m, w);
        }
        for (int c = -1; c <= 6; c++) {
            due("lacks(" + c + ")", x.ask().lacks(c), m.lacks(c));
            due("bound(" + c + ")", x.ask().bound(c), m.bound(c));
        }
        List<int[]> bench = m.bench();
        due("benches()", x.ask().benches(), bench.isEmpty() ? 0 : bench.get(bench.size() - 1)[3]);
        for (int i = -1; i <= 12; i++) {
            int[] row = i >= 0 && i < bench.size() ? bench.get(i) : new int[] {-1, 0, 0, -1};
            due("bench(" + i + ", 0)", x.ask().bench(i, 0), row[0]);
            due("bench(" + i + ", 1)", x.ask().bench(i, 1), row[3]);
        }
    }

    private static void compareWindow(Houses x, Model m, int w) {
        Window win = w >= 0 && w < m.windows.size() ? m.windows.get(w) : null;
        int[] want = new int[13];
        Arrays.fill(want, -1);
        if (win != null) {
            int more = win.layers[0].panels * (win.layers[0].cloth.width - 20) - win.wide;
            int[] minutes = m.minutes(win);
            want = new int[] {-1, win.wide, win.drop, win.face, win.lining == null ? -1 : win.lining, win.full,
                win.hems, win.split ? 1 : 0, m.pleats(win), more, minutes[0], minutes[1], -1};
            int pleats = m.pleats(win);
            int sum = 0;
            for (int i = 0; i < pleats; i++) {
                due("pleat", x.ask().pleat(w, i, false), more * (i + 1) / pleats - more * i / pleats);
            }
            for (int i = 0; i <= pleats; i++) {
                sum += x.ask().pleat(w, i, true);
            }
            due("gaps of window " + w + " together", sum, win.wide);
            due("pleat behind the last", x.ask().pleat(w, pleats, false), -1);
            due("gap behind the last", x.ask().pleat(w, pleats + 1, true), -1);
        }
        for (int what = -1; what <= 11; what++) {
            due("window(" + w + ", " + what + ")", x.ask().window(w, what), want[what + 1]);
        }
        for (int l = -1; l <= 2; l++) {
            Layer y = win == null || l < 0 || l > 1 ? null : win.layers[l];
            int lacking = 0;
            for (int p = -1; p <= 8; p++) {
                Cut c = y == null || p < 0 || p >= y.panels ? null : y.cuts[p];
                lacking += c == null && y != null && p >= 0 && p < y.panels ? 1 : 0;
                String call = "drop(" + w + ", " + l + ", " + p + ", ";
                due(call + "0)", x.ask().drop(w, l, p, 0), c == null ? -1 : c.bolt);
                due(call + "1)", x.ask().drop(w, l, p, 1), c == null ? -1 : c.place);
                due(call + "2)", x.ask().drop(w, l, p, 2), c == null ? -1 : c.length);
            }
            due("layer(" + w + ", " + l + ", 0)", x.ask().layer(w, l, 0), y == null ? -1 : y.panels);
            due("layer(" + w + ", " + l + ", 1)", x.ask().layer(w, l, 1), y == null ? -1 : y.length);
            due("layer(" + w + ", " + l + ", 2)", x.ask().layer(w, l, 2), y == null ? -1 : lacking);
        }
    }

    // ---- random runs

    /** A window as the next texts have it, so that an order anew is much like the one before. */
    static final class Draft {
        final String name;
        int wide, drop, face, lining, full, hems;
        boolean split;

        Draft(Random r, String name, int cloths) {
            this.name = name;
            for (int part = 0; part < 7; part++) {
                change(r, part, cloths);
            }
        }

        void change(Random r, int part, int cloths) {
            switch (part) {
                case 0 -> wide = 100 + r.nextInt(r.nextBoolean() ? 300 : 1200);
                case 1 -> drop = 200 + (r.nextInt(4) == 0 ? r.nextInt(1500) : 100 * r.nextInt(4));
                case 2 -> face = r.nextInt(cloths);
                case 3 -> lining = r.nextInt(3 * cloths);
                case 4 -> full = 100 + r.nextInt(200);
                case 5 -> hems = r.nextInt(200);
                default -> split = r.nextInt(3) == 0;
            }
        }

        String text(Random r, int cloths) {
            List<String> parts = new ArrayList<>();
            parts.add(wide >= 200 && r.nextBoolean() ? "wide 100 " + (wide - 100) : "wide " + wide);
            parts.add("drop " + drop);
            parts.add("face " + face);
            if (lining < cloths) {
                parts.add("lining " + lining);
            }
            if (full != 200) {
                parts.add("full " + full);
            }
            if (hems < 150) {
                parts.add("hems " + hems);
            }
            if (split) {
                parts.add("split");
            }
            java.util.Collections.shuffle(parts, r);
            String blank = r.nextInt(5) == 0 ? "\n" : " ";
            return "window " + name + (r.nextBoolean() ? ":" : " : ") + String.join(blank, parts) + ";";
        }
    }

    private static final String[] SHREDS = {";", ":", "window", "wide", "drop", "face", "lining", "full", "hems",
        "split", "0", "99", "100", "5000", "5001", "a", "b", "abcdefgh", "abcdefghi", "Wide", "\t", "\0", "\u00e9",
        "9999999999999", "000000000000100", " ", "200", "199", "400", "401", "1000", "1001", "1 2", "12"};

    private static final String[] NAMES = {"a", "b", "c", "d", "e", "A", "Bc", "abcdefgh"};

    private static void changeDrafts(Random r, List<Draft> drafts, int cloths, int most) {
        for (int i = drafts.size() - 1; i >= 0; i--) {
            int luck = r.nextInt(20);
            if (luck == 0) {
                drafts.remove(i);
            } else if (luck < 9) {
                drafts.get(i).change(r, r.nextInt(4) == 0 ? 0 : r.nextInt(7), cloths);
            }
        }
        int fresh = r.nextInt(3);
        for (int i = 0; i < fresh && drafts.size() < most; i++) {
            String name = NAMES[r.nextInt(NAMES.length)];
            if (drafts.stream().noneMatch(d -> d.name.equals(name)) || r.nextInt(20) == 0) {
                drafts.add(r.nextInt(drafts.size() + 1), new Draft(r, name, cloths));
            }
        }
    }

    private static String randomText(Random r, List<Draft> drafts, int cloths) {
        StringBuilder text = new StringBuilder();
        for (Draft d : drafts) {
            text.append(d.text(r, cloths)).append(r.nextBoolean() ? " " : "");
        }
        if (r.nextInt(6) == 0) {
            int at = r.nextInt(text.length() + 1);
            text.insert(at, SHREDS[r.nextInt(SHREDS.length)]);
        }
        if (r.nextInt(12) == 0) {
            int at = r.nextInt(text.length() + 1);
            text.delete(at, Math.min(text.length(), at + 1 + r.nextInt(4)));
        }
        return text.length() > 600 ? text.substring(0, 600) : text.toString();
    }

    private static void randomRun(long seed, int windows, int bolts, int mostItems) {
        Random r = new Random(seed);
        Houses x = new Houses();
        Model m = new Model();
        List<Draft> drafts = new ArrayList<>();
        trace = "seed " + seed + ": ";
        longest = 1000 + 1000 * r.nextInt(5);
        compare(x, m);
        int cloths = 1 + r.nextInt(3);
        for (int i = 0; i < cloths; i++) {
            addCloth(r, x, m);
        }
        for (int step = 0; step < 40 && !x.tired(); step++) {
            int kind = step < 3 ? 0 : r.nextInt(20);
            if (kind < 3) {
                if (m.bolts.size() < bolts) {
                    addBolt(r, x, m);
                }
            } else if (kind < 5) {
                addFlaw(r, x, m);
            } else if (kind < 11) {
                changeDrafts(r, drafts, cloths, windows);
                String text = randomText(r, drafts, cloths);
                trace += "'" + text + "' ";
                due("order()", x.take(h -> h.tell(text)), m.order(text));
            } else {
                planAndCut(r, x, m, mostItems);
            }
            compare(x, m);
        }
    }

    private static void planAndCut(Random r, Houses x, Model m, int mostItems) {
        int c = r.nextInt(20) == 0 ? m.cloths.size() : r.nextInt(m.cloths.size());
        int n = m.items(c).size();
        if (n > mostItems && n <= 10) {
            return;
        }
        due("plan(" + c + ")", x.take(h -> h.plan(c)), m.plan(c));
        if (r.nextInt(3) > 0) {
            trace += "cut(" + c + ") ";
            due("cut(" + c + ")", x.take(h -> h.cut(c)), m.cut(c));
        }
    }

    private static void addCloth(Random r, Houses x, Model m) {
        Cloth c = new Cloth();
        c.number = m.cloths.size();
        c.width = 300 + r.nextInt(500);
        c.repeat = r.nextInt(3) == 0 ? 0 : 2 * r.nextInt(150);
        c.half = c.repeat > 0 && r.nextBoolean();
        c.shrink = r.nextBoolean() ? 0 : r.nextInt(201);
        m.cloths.add(c);
        trace += "cloth(" + c.width + ", " + c.repeat + ", " + c.half + ", " + c.shrink + ") ";
        due("cloth", x.take(h -> h.cloth(c.width, c.repeat, c.half, c.shrink)), c.number);
    }

    private static void addBolt(Random r, Houses x, Model m) {
        Bolt b = new Bolt();
        b.number = m.bolts.size();
        b.cloth = r.nextInt(m.cloths.size());
        b.length = 100 + r.nextInt(r.nextInt(3) == 0 ? 16000 : longest);
        m.bolts.add(b);
        trace += "bolt(" + b.cloth + ", " + b.length + ") ";
        due("bolt", x.take(h -> h.bolt(b.cloth, b.length)), b.number);
    }

    private static void addFlaw(Random r, Houses x, Model m) {
        Bolt b = m.bolts.get(r.nextInt(m.bolts.size()));
        int place = r.nextInt(b.length + 2) - 1;
        boolean fine = place >= b.used && place < b.length && b.flaws.size() < 4 && !b.flaws.contains(place);
        if (fine) {
            b.flaws.add(place);
        }
        trace += "flaw(" + b.number + ", " + place + ") ";
        due("flaw", x.take(h -> h.flaw(b.number, place)), fine ? b.flaws.size() : -1);
    }

    public static void main(String[] args) {
        int times = args.length > 0 ? Integer.parseInt(args[0]) : 1;
        long first = args.length > 1 ? Long.parseLong(args[1]) : 1;
        for (long seed = first; seed < first + 400L * times; seed++) {
            randomRun(seed, 5, 4, 5);
        }
        for (long seed = first + 1000000; seed < first + 1000000 + 60L * times; seed++) {
            randomRun(seed, 7, 6, 7);
        }
        System.out.println(wrong == 0 ? "the house and its model agree" : wrong + " answers are not as due");
        if (wrong != 0) {
            System.exit(1);
        }
    }
}
