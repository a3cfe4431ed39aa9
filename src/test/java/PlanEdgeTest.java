import java.util.function.Supplier;

/** The edges of promises 15 to 18: plans, bounds, cuts, and what lacks. */
public final class PlanEdgeTest {
    private static final int NONE = Edges.NONE;
    private static final int MANY = -2;

    private static void due(String call, int got, int want) {
        Edges.due(call, got, want);
    }

    private static House told(House x, String... windows) {
        String text = String.join("", windows);
        x.tell(text);
        due("fault(0) of '" + text + "'", x.fault(0), 0);
        return x;
    }

    /** plan() and cut() answer alike, but that one counts bolts and the other drops. */
    private static void planned(String what, Supplier<House> make, int bolts, int drops) {
        new Unchanged(make).by("plan(0) " + what, x -> x.plan(0), bolts);
        if (bolts > 0) {
            House x = make.get();
            due("cut(0) " + what, x.cut(0), drops);
            due("plan(0) behind it", x.plan(0), 0);
            due("lacks(0) behind it", x.lacks(0), 0);
            due("cut(0) again", x.cut(0), 0);
        } else {
            new Unchanged(make).by("cut(0) " + what, x -> x.cut(0), bolts);
        }
    }

    private static void noPlan(String what, Supplier<House> make, int answer) {
        planned(what, make, answer, answer);
    }

    /** Windows a, b, .. of one panel each, of those lengths. */
    private static String ones(int... lengths) {
        StringBuilder out = new StringBuilder();
        for (int i = 0; i < lengths.length; i++) {
            out.append(House.win("" + (char) ('a' + i), 1, lengths[i]));
        }
        return out.toString();
    }

    // ---- promise 15

    private static void nothingLacks() {
        Edges.says(15, "0: nothing LACKS");
        noPlan("without windows", () -> House.plain(1000), 0);
        noPlan("without windows and bolts", House::plain, 0);
        noPlan("of windows of another cloth", () -> {
            House x = House.plain(1000);
            x.cloth(300, 0, false, 0);
            return told(x, House.with(House.win("a", 1, 300), "face 1 lining 1"));
        }, 0);
        noPlan("of what is cut", () -> {
            House x = told(House.plain(1000), House.win("a", 3, 300));
            x.cut(0);
            return x;
        }, 0);
        noPlan("of what is cut, out of whole bolts", () -> {
            House x = told(House.plain(300), House.win("a", 1, 300));
            x.cut(0);
            return x;
        }, 0);
    }

    private static void noSuchCloth() {
        Edges.says(15, "NONE: no such CLOTH");
        for (int cloth : Edges.outside(0, 5)) {
            States.all("plan(" + cloth + ")", x -> x.plan(cloth), NONE);
        }
        States.NEW.by("plan(0)", x -> x.plan(0), NONE);
        States.BUSY.by("plan(3)", x -> x.plan(3), NONE);
        House x = told(House.plain(), House.split("a", 8, 300), House.split("b", 8, 300));
        due("plan(0)", x.plan(0), MANY);
        due("plan(1)", x.plan(1), NONE);
        due("plan(-2)", x.plan(-2), NONE);
        Edges.says(15, "BOLTS of the PLAN: none is changed by it");
        States.BUSY.by("plan(1)", y -> y.plan(1), 1);
        States.FULL.by("plan(5)", y -> y.plan(5), 2);
    }

    private static void noWay() {
        Edges.says(15, "NONE: no WAY");
        noPlan("without bolts", () -> told(House.plain(), ones(300)), NONE);
        noPlan("with bolts of another cloth", () -> {
            House x = House.plain();
            x.cloth(300, 0, false, 0);
            x.bolt(1, 60000);
            return told(x, ones(300));
        }, NONE);
        planned("that just fits", () -> told(House.plain(300), ones(300)), 1, 1);
        noPlan("one too long", () -> told(House.plain(299), ones(300)), NONE);
        planned("of two that just fit", () -> told(House.plain(600), ones(300, 300)), 1, 2);
        noPlan("of two, one too long", () -> told(House.plain(599), ones(300, 300)), NONE);
        noPlan("with length enough, but not in one bolt", () -> told(House.plain(299, 299, 299), ones(300)), NONE);
        noPlan("with length enough, but a flaw", () -> {
            House x = House.plain(599);
            x.flaw(0, 299);
            return told(x, ones(300));
        }, NONE);
        int[] lastFits = {100, 101, 102, 103, 104, 105, 106, 107, 108, 109, 110, 300};
        planned("in the last bolt of twelve", () -> told(House.plain(lastFits), ones(300)), 1, 1);
        noPlan("of ten, one of which fits nowhere", () -> told(House.plain(1199, 1199, 1199),
            ones(200, 200, 200, 200, 200, 200, 200, 200, 200, 1200)), NONE);
        noPlan("of ten, too long together by one", () -> told(House.plain(999, 1000),
            ones(200, 200, 200, 200, 200, 200, 200, 200, 200, 200)), NONE);
        Edges.says(15, "NONE: no WAY, what lies ahead of USED being gone");
        noPlan("behind a cut", () -> {
            House x = told(House.plain(599), ones(300));
            x.cut(0);
            return told(x, ones(300, 300));
        }, NONE);
        planned("behind a cut", () -> {
            House x = told(House.plain(600), ones(300));
            x.cut(0);
            return told(x, ones(300, 300));
        }, 1, 1);
    }

    private static void tenItems() {
        Edges.says(15, "-2: more than 10 ITEMS");
        String eight = House.split("a", 8, 200);
        planned("of 10 items", () -> told(House.plain(60000), eight, House.split("b", 2, 200)), 1, 10);
        noPlan("of 11 items", () -> told(House.plain(60000), eight, House.split("b", 3, 200)), MANY);
        noPlan("of 16 items", () -> told(House.plain(60000), eight, House.split("b", 8, 200)), MANY);
        noPlan("of 11 items without a way", () -> told(House.plain(), eight, House.split("b", 3, 200)), MANY);
        noPlan("of 10 items without a way", () -> told(House.plain(), eight, House.split("b", 2, 200)), NONE);
        planned("of 10 windows with 8 panels", () -> told(House.plain(60000), windows(10, "face0")), 1, 80);
        noPlan("of 11 windows", () -> told(House.plain(60000), windows(11, "face0")), MANY);
        planned("of 5 faces and linings", () -> told(House.plain(60000), windows(5, "face0lining0")), 1, 80);
        noPlan("of 6 faces and linings", () -> told(House.plain(60000), windows(6, "face0lining0")), MANY);
        noPlan("of 12 faces and linings", () -> told(House.plain(60000), windows(12, "face0lining0")), MANY);
        Edges.says(15, "more than 10 ITEMS: of that CLOTH alone, and of DROPS that LACK alone");
        planned("of 12 windows, 10 of them of that cloth", () -> {
            House x = House.plain(60000);
            x.cloth(300, 0, false, 0);
            return told(x, windows(12, "face0").replaceAll("(window [kl].*?)face0", "$1face1"));
        }, 1, 80);
        planned("of 12 windows, 2 of them cut", () -> {
            House x = told(House.plain(60000), windows(2, "face0"));
            x.cut(0);
            return told(x, windows(12, "face0"));
        }, 1, 80);
        noPlan("of 12 windows, 1 of them cut", () -> {
            House x = told(House.plain(60000), windows(1, "face0"));
            x.cut(0);
            return told(x, windows(12, "face0"));
        }, MANY);
        planned("of 16 split drops, 6 of them cut", () -> {
            House x = told(House.plain(60000), House.split("a", 6, 200));
            x.cut(0);
            return told(x, eight, House.split("b", 8, 200));
        }, 1, 10);
        planned("of 8 drops that are split no more", () -> told(House.plain(60000), House.win("a", 8, 200),
            House.split("b", 8, 200), House.win("c", 8, 200)), 1, 24);
        noPlan("of 11 items, two windows in one", () -> told(House.plain(60000), House.win("a", 8, 200),
            House.split("b", 8, 200), House.win("c", 8, 200), House.win("d", 1, 200)), MANY);
    }

    /** Windows of 8 panels, as short as can be told. */
    private static String windows(int count, String cloths) {
        StringBuilder out = new StringBuilder();
        for (int w = 0; w < count; w++) {
            out.append("window ").append((char) ('a' + w)).append(":wide1120drop200hems0").append(cloths).append(';');
        }
        return out.toString();
    }

    private static void oneBoltAlone() {
        Edges.says(15, "An ITEM is cut from one BOLT; where the WINDOW is split each DROP by itself");
        noPlan("of a window", () -> told(House.plain(599, 599), House.win("a", 2, 300)), NONE);
        planned("of a split window", () -> told(House.plain(599, 599), House.split("a", 2, 300)), 2, 2);
        planned("of a window", () -> told(House.plain(599, 600), House.win("a", 2, 300)), 1, 2);
        planned("of a face and a lining", () -> told(House.plain(600, 600),
            House.with(House.win("a", 2, 300), "face 0 lining 0")), 2, 4);
        Edges.says(15, "If others of that LAYER of a WINDOW that isn't split are cut already: from their BOLT alone");
        noPlan("of the rest of a window", () -> firstCut(599, House.win("a", 2, 300)), NONE);
        planned("of the rest of a window", () -> firstCut(600, House.win("a", 2, 300)), 1, 1);
        planned("of the rest of a split window", () -> firstCut(599, House.split("a", 2, 300)), 1, 1);
        planned("of the lining, the face being cut", () -> firstCut(599,
            House.with(House.win("a", 1, 300), "face 0 lining 0")), 1, 1);
        planned("of another window", () -> firstCut(599, House.win("a", 1, 300) + House.win("b", 1, 300)), 1, 1);
        planned("of a window of which nothing stays", () -> firstCut(599, House.win("a", 2, 301)), 1, 2);
        planned("of the rest of a window, and another", () -> firstCut(600,
            House.win("a", 2, 300) + House.win("b", 1, 300)), 2, 2);
        noPlan("of the rest of two windows on one bolt", () -> {
            House x = told(House.plain(1100, 60000), ones(300, 300));
            x.cut(0);
            return told(x, House.win("a", 2, 300), House.win("b", 2, 300));
        }, NONE);
        planned("of the rest of two windows on one bolt", () -> {
            House x = told(House.plain(1200, 60000), ones(300, 300));
            x.cut(0);
            return told(x, House.win("a", 2, 300), House.win("b", 2, 300));
        }, 1, 2);
    }

    /** A house in which window a, of one panel of 300, was cut from bolt 0, and a text then. */
    private static House firstCut(int length, String text) {
        House x = told(House.plain(length, 60000), House.win("a", 1, 300));
        x.cut(0);
        due("drop(0, 0, 0, 0)", x.drop(0, 0, 0, 0), 0);
        return told(x, text);
    }

    private static void howManyBolts() {
        Edges.says(15, "BOLTS of the PLAN: fewest, from one to all twelve");
        int[] lengths = {300, 300, 300, 300, 300, 300, 300, 300, 300, 300, 300, 300};
        for (int n = 1; n <= 8; n++) {
            int panels = n;
            planned("of " + n, () -> told(House.plain(lengths), House.split("a", panels, 300)), n, n);
        }
        planned("of 10", () -> told(House.plain(lengths), House.split("a", 8, 300), House.split("b", 2, 300)), 10, 10);
        planned("of 3 in one", () -> told(House.plain(300, 300, 300, 900), House.split("a", 3, 300)), 1, 3);
        planned("of 4 in two", () -> told(House.plain(300, 300, 600, 600), House.split("a", 4, 300)), 2, 4);
        planned("of 4 in two", () -> told(House.plain(300, 300, 300, 900), House.split("a", 4, 300)), 2, 4);
        Edges.says(15, "BOLTS of the PLAN: fewest, in whichever order the BOLTS come");
        everyOrder(3, 2, 300, 300, 600);
        everyOrder(3, 2, 300, 600, 300, 300);
        everyOrder(4, 2, 300, 300, 300, 900);
        everyOrder(4, 2, 300, 300, 600, 600);
        everyOrder(5, 2, 300, 300, 600, 900);
        everyOrder(5, 3, 300, 300, 600, 600);
        everyOrder(6, 4, 300, 300, 300, 600, 600);
        everyOrder(8, NONE, 300, 300, 600, 900);
        Edges.says(15, "in each BOLT an order of its ITEMS, so that all lie in it");
        planned("with b first", () -> told(House.patterned(100, false, 550), ones(250, 300)), 1, 2);
        noPlan("in no order", () -> told(House.patterned(100, false, 549), ones(250, 300)), NONE);
        planned("with c first, then b", () -> told(House.patterned(100, false, 950), ones(250, 300, 400)), 1, 3);
        noPlan("in no order", () -> told(House.patterned(100, false, 949), ones(250, 300, 400)), NONE);
    }

    /** Drops of 300, cut from bolts that come in each order. */
    private static void everyOrder(int drops, int bolts, int... lengths) {
        arrange(drops, bolts, lengths, 0);
    }

    private static void arrange(int drops, int bolts, int[] lengths, int from) {
        if (from == lengths.length) {
            String of = drops + " drops of 300 from bolts " + java.util.Arrays.toString(lengths);
            due("plan(0) of " + of, told(House.plain(lengths), House.split("a", drops, 300)).plan(0), bolts);
        }
        for (int i = from; i < lengths.length; i++) {
            int[] swapped = lengths.clone();
            swapped[from] = lengths[i];
            swapped[i] = lengths[from];
            arrange(drops, bolts, swapped, from + 1);
        }
    }

    // ---- promise 16

    private static void bounded(String what, House x, int want) {
        due("bound(0) " + what, x.bound(0), want);
    }

    private static void bound() {
        Edges.says(16, "BOUND of a CLOTH (0: nothing LACKS)");
        bounded("without windows", House.plain(1000), 0);
        bounded("without windows and bolts", House.plain(), 0);
        House cut = told(House.plain(300), ones(300));
        cut.cut(0);
        bounded("of what is cut", cut, 0);
        Edges.says(16, "not below the sum of LONG of all DROPS that LACK; NONE if all together are below it");
        bounded("without bolts", told(House.plain(), ones(200)), NONE);
        bounded("of as much as there is", told(House.plain(300), ones(300)), 1);
        bounded("of one more", told(House.plain(299), ones(300)), NONE);
        bounded("of as much as there is", told(House.plain(100, 200, 300), ones(600)), 3);
        bounded("of one more", told(House.plain(100, 200, 300), ones(601)), NONE);
        bounded("of what a window lacks", told(House.plain(2400), House.win("a", 8, 300)), 1);
        bounded("of one more", told(House.plain(2399), House.win("a", 8, 300)), NONE);
        Edges.says(16, "the least m for which the m greatest are together not below");
        int[] lengths = {100, 110, 120, 130, 140, 150, 160, 170, 180, 190, 200, 210};
        int sum = 0;
        for (int m = 1; m <= 12; m++) {
            sum += lengths[12 - m];
            if (sum >= 200) {
                bounded("of " + sum, told(House.plain(lengths), lengthsOf(sum)), m);
                bounded("of " + (sum + 1), told(House.plain(lengths), lengthsOf(sum + 1)), m < 12 ? m + 1 : NONE);
            }
        }
        bounded("whatever the order of the bolts", told(House.plain(200, 500, 300, 400), ones(900)), 2);
        bounded("whatever the order of the bolts", told(House.plain(500, 200, 400, 300), ones(901)), 3);
        bounded("of like bolts", told(House.plain(300, 300, 300), ones(600)), 2);
        Edges.says(16, "LENGTH - USED of the CLOTH's BOLTS");
        House used = told(House.plain(900, 500), ones(900));
        used.cut(0);
        bounded("with a bolt that is used up", told(used, House.win("b", 1, 500)), 1);
        bounded("with a bolt that is used up", told(used, House.win("b", 1, 501)), NONE);
        House half = told(House.plain(900, 500), ones(500));
        half.cut(0);
        due("boltOf(0, 2)", half.boltOf(0, 2), 500);
        bounded("with 400 and 500", told(half, House.win("b", 1, 500)), 1);
        bounded("with 400 and 500", told(half, House.win("b", 1, 900)), 2);
        bounded("with 400 and 500", told(half, House.win("b", 1, 901)), NONE);
        House other = House.plain(300);
        other.cloth(300, 0, false, 0);
        other.bolt(1, 60000);
        bounded("with a bolt of another cloth", told(other, ones(301)), NONE);
        due("bound(1)", other.bound(1), 0);
        Edges.says(16, "BOUND: FLAWS, patterns and the 10 ITEMS aside");
        House flawed = House.patterned(800, true, 599);
        flawed.flaw(0, 299);
        bounded("with a flaw", told(flawed, House.win("a", 1, 300)), 1);
        due("plan(0)", flawed.plan(0), NONE);
        bounded("of 16 items", told(House.plain(3200), House.split("a", 8, 200), House.split("b", 8, 200)), 1);
        bounded("of 16 items", told(House.plain(3199), House.split("a", 8, 200), House.split("b", 8, 200)), NONE);
        bounded("of a window that fits no bolt", told(House.plain(300, 300), House.win("a", 2, 300)), 2);
        Edges.says(16, "NONE: no such CLOTH");
        for (int cloth : Edges.outside(0, 5)) {
            States.all("bound(" + cloth + ")", x -> x.bound(cloth), NONE);
        }
        States.NEW.by("bound(0)", x -> x.bound(0), NONE);
        States.BUSY.by("bound(3)", x -> x.bound(3), NONE);
        States.BUSY.by("bound(1)", x -> x.bound(1), 1);
        States.FULL.by("bound(5)", x -> x.bound(5), 1);
    }

    /** Windows whose drops together have that length, 200 at least. */
    private static String lengthsOf(int sum) {
        return sum <= 1200 ? ones(sum) : ones(1000, sum - 1000);
    }

    // ---- promise 17

    private static void chosen() {
        Edges.says(17, "PLAN: fewest BOLTS, whatever the lowest could have");
        cutFrom(House.plain(300, 600), ones(300, 300), 1, 0, 1, 300);
        cutFrom(House.plain(300, 300, 600), ones(300, 300), 2, 0, 2, 300);
        Edges.says(17, "the one whose lowest BOLT has the ITEMS that make the greatest number");
        cutFrom(House.plain(600, 600), ones(300, 300, 300), 1, 0, 0, 0, 0, 300);
        cutFrom(House.plain(300, 600), ones(300, 300, 300), 1, 0, 1, 300, 0, 0);
        cutFrom(House.plain(600, 600), ones(300, 300, 600), 1, 0, 1, 300, 0, 0);
        cutFrom(House.plain(600, 600), ones(600, 300, 300), 1, 0, 0, 0, 0, 300);
        cutFrom(House.plain(300, 300), ones(300, 300), 1, 0, 0, 0);
        cutFrom(House.plain(900, 900), ones(300), 0, 0);
        Edges.says(17, "the greatest number: of those with the fewest BOLTS alone");
        cutFrom(House.plain(600, 500, 300), ones(300, 300, 300, 200), 1, 0, 0, 0, 0, 300, 1, 300);
        cutFrom(House.plain(600, 500, 600), ones(300, 300, 300, 200), 2, 0, 2, 300, 0, 0, 0, 300);
        Edges.says(17, "then the next BOLT, and so on");
        cutFrom(House.plain(600, 600, 600), ones(300, 300, 300, 300, 300), 2, 0, 1, 0, 1, 300, 0, 0, 0, 300);
        cutFrom(House.plain(300, 300, 300, 300), ones(300, 300, 300), 2, 0, 1, 0, 0, 0);
        cutFrom(House.plain(300, 600, 300, 600), ones(300, 300, 300, 300), 3, 0, 3, 300, 1, 0, 1, 300);
        cutFrom(House.plain(200, 300, 250, 300), ones(300, 250, 300), 3, 0, 2, 0, 1, 0);
        Edges.says(17, "then in each BOLT the earliest end of the last one");
        cutFrom(House.patterned(100, false, 60000), ones(250, 300), 0, 300, 0, 0);
        cutFrom(House.patterned(100, false, 60000), ones(250, 280, 300), 0, 600, 0, 0, 0, 300);
        House flawed = House.plain(60000);
        flawed.flaw(0, 250);
        cutFrom(flawed, ones(300, 250), 0, 251, 0, 0);
        House late = House.plain(60000);
        late.flaw(0, 249);
        cutFrom(late, ones(300, 250), 0, 250, 0, 550);
        Edges.says(17, "of these orders the first by ITEMS (the lower one first)");
        cutFrom(House.plain(60000), ones(300, 250, 400), 0, 0, 0, 300, 0, 550);
        cutFrom(House.patterned(100, false, 60000), ones(250, 250, 300), 0, 0, 0, 600, 0, 300);
        cutFrom(House.patterned(100, false, 60000), ones(300, 250, 400), 0, 0, 0, 700, 0, 300);
        cutFrom(House.patterned(100, false, 60000), ones(230, 300, 230, 300, 220), 0, 0, 0, 300, 0, 600, 0, 900,
            0, 1200);
        Edges.says(17, "of these orders: of 10 ITEMS");
        cutFrom(House.patterned(100, false, 2950), ones(250, 300, 300, 300, 300, 300, 300, 300, 300, 300),
            0, 2700, 0, 0, 0, 300, 0, 600, 0, 900, 0, 1200, 0, 1500, 0, 1800, 0, 2100, 0, 2400);
        cutFrom(House.patterned(100, false, 60000), ones(220, 300, 300, 300, 300, 300, 300, 300, 250, 210),
            0, 0, 0, 300, 0, 600, 0, 900, 0, 1200, 0, 1500, 0, 1800, 0, 2100, 0, 2400, 0, 2700);
        Edges.says(17, "in each BOLT by itself");
        cutFrom(House.patterned(100, false, 550, 550), ones(250, 300, 250, 300), 1, 300, 1, 0, 0, 300, 0, 0);
    }

    /** Windows of one panel each: bolt and place of each of them. */
    private static void cutFrom(House x, String text, int... boltsAndPlaces) {
        told(x, text);
        due("cut(0) of '" + text + "'", x.cut(0), boltsAndPlaces.length / 2);
        for (int w = 0; 2 * w < boltsAndPlaces.length; w++) {
            due("drop(" + w + ", 0, 0, 0) of '" + text + "'", x.drop(w, 0, 0, 0), boltsAndPlaces[2 * w]);
            due("drop(" + w + ", 0, 0, 1) of '" + text + "'", x.drop(w, 0, 0, 1), boltsAndPlaces[2 * w + 1]);
        }
    }

    private static void itemNumbers() {
        Edges.says(17, "ITEMS: WINDOW by WINDOW, LAYER by LAYER, DROP by DROP");
        House x = told(House.plain(300, 300, 300, 300, 300, 300),
            House.with(House.split("a", 2, 300), "face 0 lining 0"), House.win("b", 1, 300), House.win("c", 1, 300));
        due("cut(0)", x.cut(0), 6);
        Edges.drops(x, 0, 0, 5, 0, 4, 0);
        Edges.drops(x, 0, 1, 3, 0, 2, 0);
        Edges.drops(x, 1, 0, 1, 0);
        Edges.drops(x, 2, 0, 0, 0);
        Edges.says(17, "An ITEM is cut from a place on: DROP by DROP by PANELS, not ahead of the end of another");
        House y = told(House.plain(60000), House.win("a", 3, 300), House.split("b", 3, 200), House.win("c", 2, 250));
        due("cut(0)", y.cut(0), 8);
        Edges.drops(y, 0, 0, 0, 0, 0, 300, 0, 600);
        Edges.drops(y, 1, 0, 0, 900, 0, 1100, 0, 1300);
        Edges.drops(y, 2, 0, 0, 1500, 0, 1750);
        Edges.says(17, "all that LACK together: those on either side of one that is cut");
        // Bolt 0 has but one place for a drop of 300, of an odd panel; bolt 1 has room for two.
        House z = House.patterned(400, true, 1899, 700);
        for (int flaw : Edges.row(0, 600, 1000, 1400)) {
            z.flaw(0, flaw);
        }
        told(z, House.split("a", 3, 300));
        due("cut(0)", z.cut(0), 3);
        Edges.drops(z, 0, 0, 1, 0, 0, 200, 1, 400);
        told(z, House.win("a", 3, 200));
        due("lost()", z.lost(), 2);
        due("cut(0)", z.cut(0), 2);
        Edges.drops(z, 0, 0, 0, 800, 0, 200, 0, 1200);
        due("boltOf(0, 2)", z.boltOf(0, 2), 1400);
    }

    private static void used() {
        Edges.says(17, "USED of a BOLT is the end of its last one");
        House x = told(House.patterned(100, false, 1000, 1000), House.win("a", 3, 250));
        due("cut(0)", x.cut(0), 3);
        due("boltOf(0, 2)", x.boltOf(0, 2), 850);
        due("boltOf(1, 2) without an item", x.boltOf(1, 2), 0);
        House whole = told(House.plain(900), House.win("a", 3, 300));
        whole.cut(0);
        due("boltOf(0, 2)", whole.boltOf(0, 2), 900);
        Edges.says(17, "USED stays where a BOLT has no ITEM");
        House two = told(House.plain(500, 1000), ones(300));
        two.cut(0);
        told(two, House.win("a", 1, 300), House.win("b", 1, 400));
        due("cut(0)", two.cut(0), 1);
        due("boltOf(0, 2)", two.boltOf(0, 2), 300);
        due("boltOf(1, 2)", two.boltOf(1, 2), 400);
        Edges.says(17, "The PLAN of a CLOTH is CUT: of that one alone");
        House cloths = House.plain(1000);
        cloths.cloth(300, 0, false, 0);
        cloths.bolt(1, 1000);
        told(cloths, House.with(House.win("a", 2, 300), "face 0 lining 1"));
        due("cut(1)", cloths.cut(1), 2);
        due("layer(0, 0, 2)", cloths.layer(0, 0, 2), 2);
        due("layer(0, 1, 2)", cloths.layer(0, 1, 2), 0);
        due("boltOf(0, 2)", cloths.boltOf(0, 2), 0);
        due("boltOf(1, 2)", cloths.boltOf(1, 2), 600);
        due("lost()", cloths.lost(), 0);
    }

    private static void cutNumbers() {
        Edges.says(17, "NONE, -2, changing nothing, as plan()");
        for (int cloth : Edges.outside(0, 5)) {
            States.all("cut(" + cloth + ")", x -> x.cut(cloth), NONE);
        }
        States.NEW.by("cut(0)", x -> x.cut(0), NONE);
        States.BUSY.by("cut(3)", x -> x.cut(3), NONE);
        States.BUSY.by("cut(2)", x -> x.cut(2), NONE);
        Unchanged many = new Unchanged(() -> told(House.plain(60000, 60000), House.split("a", 8, 200),
            House.split("b", 3, 200)));
        many.by("cut(0) of 11 items", x -> x.cut(0), MANY);
        Unchanged noWay = new Unchanged(() -> told(House.plain(300, 500), ones(300, 300, 300)));
        noWay.by("cut(0) without a way for all", x -> x.cut(0), NONE);
        Unchanged behindPlan = new Unchanged(() -> {
            House x = told(House.plain(600), ones(300, 300));
            x.plan(0);
            return told(x, ones(300, 301));
        });
        behindPlan.by("cut(0) behind a plan of another order", x -> x.cut(0), NONE);
        House x = told(House.plain(600), House.win("a", 2, 300));
        due("plan(0)", x.plan(0), 1);
        due("plan(0)", x.plan(0), 1);
        due("cut(0)", x.cut(0), 2);
        due("cut(0) of nothing", x.cut(0), 0);
    }

    // ---- promise 18

    private static void lacks() {
        Edges.says(18, "the sum of LONG of its DROPS that do. NONE: no such CLOTH.");
        for (int cloth : Edges.outside(0, 5)) {
            States.all("lacks(" + cloth + ")", x -> x.lacks(cloth), NONE);
        }
        States.NEW.by("lacks(0)", x -> x.lacks(0), NONE);
        States.BUSY.by("lacks(3)", x -> x.lacks(3), NONE);
        States.BUSY.by("lacks(0)", x -> x.lacks(0), 300);
        States.BUSY.by("lacks(1)", x -> x.lacks(1), 2 * 278 + 4 * 1334);
        States.BUSY.by("lacks(2)", x -> x.lacks(2), 2400);
        House none = House.plain(1000);
        due("lacks(0) without windows", none.lacks(0), 0);
        House x = new House();
        x.cloth(300, 0, false, 200);
        due("lacks(0)", x.lacks(0), 0);
        x.tell(windows(12, "face0lining0").replaceAll("drop200hems0", "drop5000hems1000"));
        due("about(2)", x.about(2), 12);
        due("lacks(0) of as much as can be", x.lacks(0), 12 * 16 * 7500);
        due("bound(0)", x.bound(0), NONE);
        due("plan(0)", x.plan(0), MANY);
        Edges.says(18, "of a CLOTH: faces and linings of it, those that LACK");
        House y = House.plain(60000);
        y.cloth(300, 0, false, 100);
        y.bolt(1, 60000);
        told(y, House.with(House.win("a", 3, 300), "face 0 lining 1"),
            House.with(House.win("b", 2, 300), "face 1 lining 0"));
        due("lacks(0)", y.lacks(0), 1500);
        due("lacks(1)", y.lacks(1), 5 * 334);
        y.cut(1);
        due("lacks(0)", y.lacks(0), 1500);
        due("lacks(1)", y.lacks(1), 0);
        told(y, House.with(House.win("a", 4, 300), "face 0 lining 1"));
        due("lacks(0)", y.lacks(0), 1200);
        due("lacks(1) of a panel more", y.lacks(1), 334);
        told(y, House.with(House.win("a", 3, 301), "face 0 lining 1"));
        due("lacks(1) of what is too short now", y.lacks(1), 3 * 335);
        told(y, "");
        due("lacks(1) without windows", y.lacks(1), 0);
    }

    public static void main(String[] args) {
        nothingLacks();
        noSuchCloth();
        noWay();
        tenItems();
        oneBoltAlone();
        howManyBolts();
        bound();
        chosen();
        itemNumbers();
        used();
        cutNumbers();
        lacks();
        Edges.finish(15, 18);
    }
}
