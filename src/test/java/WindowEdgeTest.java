import java.math.BigInteger;
import java.util.ArrayList;
import java.util.List;

/** The edges of promises 10 to 12: windows, layers, pleats and gaps. */
public final class WindowEdgeTest {
    private static final int NONE = Edges.NONE;

    private static void due(String call, int got, int want) {
        Edges.due(call, got, want);
    }

    /** A house with a cloth of WIDTH 300 and one of 2000. */
    private static House twoCloths() {
        House x = House.plain();
        x.cloth(2000, 0, false, 0);
        return x;
    }

    // ---- promise 10

    private static void windowParts() {
        Edges.says(10, "0 WIDE, 1 drop, 2 face's CLOTH, 3 lining's (NONE), 4 full, 5 hems, 6 split (1, 0), ..");
        House x = twoCloths();
        due("order()", x.tell("window least:wide 100 drop 200 face 0 lining 0 full 100 hems 0;"
            + "window most:wide 990 990 990 990 drop 5000 face 1 lining 1 full 400 hems 1000 split;"
            + "window bare:face 1 drop 300 wide 101;"), 3);
        int[] least = {100, 200, 0, 0, 100, 0, 0, 1, 180, 12, 7};
        int[] most = {3960, 5000, 1, 1, 400, 1000, 1, 33, 11880, 410, 71};
        int[] bare = {101, 300, 1, NONE, 200, 300, 0, 1, 1879, 13, 7};
        for (int what = 0; what <= 10; what++) {
            due("window(0, " + what + ")", x.window(0, what), least[what]);
            due("window(1, " + what + ")", x.window(1, what), most[what]);
            due("window(2, " + what + ")", x.window(2, what), bare[what]);
        }
        Edges.says(10, "Without full: 200; hems: 300; lining: none - of each WINDOW by itself");
        x.tell("window a:wide 100 drop 200 face 0 lining 1 full 400 hems 1000 split;"
            + "window b:wide 100 drop 200 face 0;");
        due("window(1, 3)", x.window(1, 3), NONE);
        due("window(1, 4)", x.window(1, 4), 200);
        due("window(1, 5)", x.window(1, 5), 300);
        due("window(1, 6)", x.window(1, 6), 0);
        x.tell("window a:wide 100 drop 200 face 0;");
        for (int what = 0; what <= 6; what++) {
            due("window(0, " + what + ") of the order anew", x.window(0, what),
                new int[] {100, 200, 0, NONE, 200, 300, 0}[what]);
        }
        x.tell("window a:full 200 hems 300 wide 100 drop 200 face 0 lining 0;");
        due("window(0, 3) of CLOTH 0", x.window(0, 3), 0);
        Edges.says(10, "parts in any order");
        List<String> parts = List.of("wide 150", "drop 250", "face 1", "lining 0", "full 150", "hems 50", "split");
        for (int turn = 0; turn < parts.size(); turn++) {
            List<String> turned = new ArrayList<>(parts.subList(turn, parts.size()));
            turned.addAll(parts.subList(0, turn));
            x.tell("window a:" + String.join(" ", turned) + ";");
            for (int what = 0; what <= 6; what++) {
                due("window(0, " + what + ")", x.window(0, what), new int[] {150, 250, 1, 0, 150, 50, 1}[what]);
            }
        }
    }

    /** A window with all parts, and then, some texts later, one of that name and number with the least. */
    private static void nothingStays() {
        Edges.says(10, "Without full: 200; hems: 300; lining: none - whatever texts came before");
        String much = "window a:wide 990 drop 5000 face 1 lining 1 full 400 hems 1000 split;";
        String bare = "window a:wide 100 drop 200 face 0;";
        for (int between = 0; between <= 3; between++) {
            for (String text : new String[] {"", much, bare, much + "?", much + bare}) {
                House x = twoCloths();
                x.tell(much);
                for (int i = 0; i < between; i++) {
                    x.tell(text);
                }
                due("order()", x.tell(bare), 1);
                for (int what = 0; what <= 10; what++) {
                    due("window(0, " + what + ") behind " + between + " of '" + text + "'", x.window(0, what),
                        new int[] {100, 200, 0, NONE, 200, 300, 0, 1, 180, 12, 7}[what]);
                }
                due("layer(0, 0, 0)", x.layer(0, 0, 0), 1);
                due("layer(0, 0, 1)", x.layer(0, 0, 1), 500);
                due("layer(0, 0, 2)", x.layer(0, 0, 2), 1);
                due("layer(0, 1, 0)", x.layer(0, 1, 0), NONE);
                due("layer(0, 1, 2)", x.layer(0, 1, 2), NONE);
                due("lacks(1)", x.lacks(1), 0);
                x.bolt(0, 500);
                due("plan(0)", x.plan(0), 1);
                due("cut(0)", x.cut(0), 1);
                due("benches()", x.benches(), 19);
            }
        }
    }

    private static void windowNumbers() {
        Edges.says(10, "Of a WINDOW. NONE for others.");
        for (int w : Edges.outside(0, 11)) {
            for (int what = 0; what <= 10; what++) {
                int asked = what;
                States.NEW.by("window(" + w + ", " + what + ")", x -> x.window(w, asked), NONE);
                States.FULL.by("window(" + w + ", " + what + ")", x -> x.window(w, asked), NONE);
            }
        }
        for (int what : Edges.outside(0, 10)) {
            States.BUSY.by("window(0, " + what + ")", x -> x.window(0, what), NONE);
            States.FULL.by("window(11, " + what + ")", x -> x.window(11, what), NONE);
        }
        House x = States.busy();
        due("the last one", x.window(3, 0), 700);
        due("behind the last one", x.window(4, 0), NONE);
        due("the 12th", States.full().window(11, 2), 5);
        States.NEW.by("window(0, 0)", y -> y.window(0, 0), NONE);
        Edges.says(10, "a WINDOW of the ORDER, not of the one before");
        x.order();
        due("about(2)", x.about(2), 2);
        due("window(1, 0)", x.window(1, 0), 140);
        due("window(2, 0)", x.window(2, 0), NONE);
        x.order();
        due("window(0, 0)", x.window(0, 0), NONE);
    }

    private static void sides() {
        Edges.says(10, "WIDE: its sides together (8 at most)");
        int sum = 0;
        StringBuilder text = new StringBuilder("window a:drop 200 face 1 full 100 wide");
        for (int n = 1; n <= 8; n++) {
            text.append(' ').append(1000 + n);
            sum += 1000 + n;
            House x = twoCloths();
            due("order()", x.tell(text + ";"), 1);
            due("window(0, 0)", x.window(0, 0), sum);
        }
    }

    private static void pleatsAndMore() {
        Edges.says(10, "PLEATS: WIDE / 120, cut, one at least");
        int[][] rows = {{100, 1}, {119, 1}, {120, 1}, {121, 1}, {239, 1}, {240, 2}, {359, 2}, {360, 3}, {479, 3},
            {480, 4}, {5000, 41}};
        for (int[] row : rows) {
            House x = twoCloths();
            x.tell("window a:wide " + row[0] + " drop 200 face 1 full 100;");
            due("window(0, 7) of WIDE " + row[0], x.window(0, 7), row[1]);
            due("window(0, 10) of WIDE " + row[0], x.window(0, 10), 5 + 2 * row[1]);
        }
        House widest = twoCloths();
        widest.tell("window a:wide 5000 5000 5000 840 drop 200 face 1 full 100;");
        due("window(0, 7) of WIDE 15840", widest.window(0, 7), 132);
        due("window(0, 10) of WIDE 15840", widest.window(0, 10), 269);
        Edges.says(10, "MORE: PANELS of the face times USE less WIDE");
        int[][] more = {{280, 100, 0}, {281, 100, 279}, {279, 100, 1}, {2240, 100, 0}, {2239, 100, 1}, {1960, 100, 0},
            {1961, 100, 279}, {140, 200, 140}, {141, 200, 419}, {560, 400, 1680}};
        for (int[] row : more) {
            House x = twoCloths();
            x.tell("window a:wide " + row[0] + " drop 200 face 0 full " + row[1] + ";");
            due("window(0, 8) of WIDE " + row[0], x.window(0, 8), row[2]);
            x.tell("window a:lining 1 wide " + row[0] + " drop 200 face 0 full " + row[1] + ";");
            due("window(0, 8) with a lining of WIDTH 2000", x.window(0, 8), row[2]);
        }
        Edges.says(10, "10 + PANELS of the face * (drop / 100, cut) minutes");
        int[][] minutes = {{200, 2}, {299, 2}, {300, 3}, {4999, 49}, {5000, 50}};
        for (int[] row : minutes) {
            for (int panels = 1; panels <= 8; panels++) {
                House x = twoCloths();
                x.tell("window a:lining 1 hems 999 wide " + 140 * panels + " drop " + row[0] + " face 0;");
                due("window(0, 9) of " + panels + " PANELS and drop " + row[0], x.window(0, 9), 10 + panels * row[1]);
            }
        }
    }

    // ---- promise 11

    private static int upwards(long amount, long by) {
        BigInteger[] parts = BigInteger.valueOf(amount).divideAndRemainder(BigInteger.valueOf(by));
        return parts[0].intValue() + parts[1].signum();
    }

    private static void panels() {
        Edges.says(11, "PANELS of a LAYER: WIDE * full / 100 by USE, upwards (of the whole quotient)");
        for (int full = 100; full <= 400; full++) {
            for (int panels = 1; panels <= 8; panels++) {
                int widest = 28000 * panels / full;
                if (widest >= 100 && widest < 5000) {
                    panelsOf(300, widest, full, panels);
                    panelsOf(300, widest + 1, full, panels + 1);
                }
            }
        }
        for (int width : Edges.row(300, 301, 333, 1020, 1999, 2000)) {
            for (int full : Edges.row(100, 101, 150, 199, 200, 399, 400)) {
                int widest = (width - 20) * 100 / full;
                if (widest >= 100 && widest < 5000) {
                    panelsOf(width, widest, full, 1);
                    panelsOf(width, widest + 1, full, 2);
                }
            }
        }
        panelsOf(2000, 100, 100, 1);
        panelsOf(300, 100, 400, 2);
    }

    private static void panelsOf(int width, int wide, int full, int want) {
        String text = "window a:wide " + wide + " drop 200 full " + full + " face ";
        House x = House.plain();
        x.cloth(width, 0, false, 0);
        if (want > 8) {
            due("order() of '" + text + "1;'", x.tell(text + "1;"), NONE);
            return;
        }
        x.tell(text + "1;");
        due("layer(0, 0, 0) of '" + text + "' with WIDTH " + width, x.layer(0, 0, 0), want);
        due("layer(0, 0, 2)", x.layer(0, 0, 2), want);
        House lined = new House();
        lined.cloth(2000, 0, false, 0);
        lined.cloth(width, 0, false, 0);
        lined.tell(text + "0 lining 1;");
        due("layer(0, 1, 0) of '" + text + "' with WIDTH " + width, lined.layer(0, 1, 0), want);
    }

    private static void longs() {
        Edges.says(11, "LONG of a LAYER: drop and hems times 1000 by (1000 - SHRINK), upwards");
        int[][] sums = {{200, 0}, {200, 1}, {200, 600}, {999, 0}, {1000, 0}, {999, 1}, {4999, 1000}, {5000, 1000},
            {5000, 999}, {204, 0}, {203, 0}, {205, 0}};
        for (int shrink : Edges.row(0, 1, 2, 50, 100, 111, 199, 200)) {
            House x = new House();
            x.cloth(2000, 0, false, 0);
            x.cloth(2000, 0, false, shrink);
            for (int[] sum : sums) {
                x.tell("window a:wide 100 face 0 lining 1 drop " + sum[0] + " hems " + sum[1] + ";");
                due("layer(0, 0, 1)", x.layer(0, 0, 1), sum[0] + sum[1]);
                due("layer(0, 1, 1) of " + sum[0] + " and " + sum[1] + " with SHRINK " + shrink, x.layer(0, 1, 1),
                    upwards(1000L * (sum[0] + sum[1]), 1000 - shrink));
            }
        }
        House x = new House();
        x.cloth(300, 0, false, 200);
        x.tell("window a:wide 100 face 0 drop 5000 hems 1000;window b:wide 100 face 0 drop 200 hems 0;"
            + "window c:wide 100 face 0 drop 201 hems 0;window d:wide 100 face 0 drop 204 hems 0;");
        due("layer(0, 0, 1)", x.layer(0, 0, 1), 7500);
        due("layer(1, 0, 1)", x.layer(1, 0, 1), 250);
        due("layer(2, 0, 1)", x.layer(2, 0, 1), 252);
        due("layer(3, 0, 1)", x.layer(3, 0, 1), 255);
    }

    private static void lackingDrops() {
        Edges.says(11, "2 DROPS that LACK: all, some, none");
        House x = House.plain(60000);
        x.tell(House.with(House.win("a", 8, 300), "face 0 lining 0"));
        due("layer(0, 0, 2)", x.layer(0, 0, 2), 8);
        due("layer(0, 1, 2)", x.layer(0, 1, 2), 8);
        x.cut(0);
        due("layer(0, 0, 2)", x.layer(0, 0, 2), 0);
        due("layer(0, 1, 2)", x.layer(0, 1, 2), 0);
        x.tell(House.win("a", 3, 300));
        due("layer(0, 0, 2)", x.layer(0, 0, 2), 0);
        x.tell(House.with(House.win("a", 8, 300), "face 0 lining 0"));
        due("layer(0, 0, 2)", x.layer(0, 0, 2), 5);
        due("layer(0, 1, 2)", x.layer(0, 1, 2), 8);
        x.tell(House.win("a", 8, 301));
        due("layer(0, 0, 2)", x.layer(0, 0, 2), 8);
    }

    private static void layerNumbers() {
        Edges.says(11, "NONE for others, and without a lining.");
        for (int n : Edges.outside(0, 11)) {
            States.FULL.by("layer(" + n + ", 0, 0)", x -> x.layer(n, 0, 0), NONE);
        }
        for (int n : Edges.outside(0, 1)) {
            States.BUSY.by("layer(1, " + n + ", 0)", x -> x.layer(1, n, 0), NONE);
            States.BUSY.by("layer(3, " + n + ", 1)", x -> x.layer(3, n, 1), NONE);
        }
        for (int n : Edges.outside(0, 2)) {
            States.BUSY.by("layer(1, 0, " + n + ")", x -> x.layer(1, 0, n), NONE);
            States.BUSY.by("layer(1, 1, " + n + ")", x -> x.layer(1, 1, n), NONE);
        }
        for (int what = 0; what <= 2; what++) {
            int asked = what;
            States.BUSY.by("layer(2, 1, " + what + ") without a lining", x -> x.layer(2, 1, asked), NONE);
            States.BUSY.by("layer(4, 0, " + what + ")", x -> x.layer(4, 0, asked), NONE);
        }
        House x = House.plain();
        x.tell(House.with(House.win("a", 1, 300), "face 0 lining 0"));
        due("layer(0, 1, 0)", x.layer(0, 1, 0), 1);
        x.tell(House.win("a", 1, 300));
        due("layer(0, 1, 0) of the order anew, without a lining", x.layer(0, 1, 0), NONE);
    }

    // ---- promise 12

    private static void shares() {
        Edges.says(12, "PLEAT i has MORE * (i + 1) / PLEATS less MORE * i / PLEATS, each cut; GAP i likewise of WIDE");
        for (int wide : Edges.row(100, 119, 120, 239, 240, 241, 280, 359, 360, 500, 1000, 1001, 4999, 5000)) {
            House x = twoCloths();
            x.tell("window a:wide " + wide + " drop 200 face 1 full 100;");
            int pleats = Math.max(1, wide / 120);
            int more = x.window(0, 8);
            int last = 0;
            for (int i = 0; i < pleats; i++) {
                int upTo = (int) ((long) more * (i + 1) / pleats);
                due("pleat(0, " + i + ", false) of WIDE " + wide, x.pleat(0, i, false), upTo - last);
                last = upTo;
            }
            due("all pleats together", last, more);
            last = 0;
            for (int i = 0; i <= pleats; i++) {
                int upTo = (int) ((long) wide * (i + 1) / (pleats + 1));
                due("pleat(0, " + i + ", true) of WIDE " + wide, x.pleat(0, i, true), upTo - last);
                last = upTo;
            }
            due("all gaps together", last, wide);
            due("pleat(0, PLEATS, false)", x.pleat(0, pleats, false), NONE);
            due("pleat(0, GAPS, true)", x.pleat(0, pleats + 1, true), NONE);
        }
        House widest = twoCloths();
        widest.tell("window a:wide 5000 5000 4900 drop 200 face 1 full 100;");
        due("PLEATS", widest.window(0, 7), 124);
        due("MORE", widest.window(0, 8), 940);
        due("pleat(0, 123, false)", widest.pleat(0, 123, false), 940 - 940 * 123 / 124);
        due("pleat(0, 124, false)", widest.pleat(0, 124, false), NONE);
        due("pleat(0, 124, true)", widest.pleat(0, 124, true), 14900 - 14900 * 124 / 125);
        due("pleat(0, 125, true)", widest.pleat(0, 125, true), NONE);
        Edges.says(12, "a PLEAT of a MORE of 0, and of less than there are PLEATS");
        House x = twoCloths();
        x.tell("window a:wide 2240 drop 200 face 0 full 100;window b:wide 2237 drop 200 face 0 full 100;");
        int sum = 0;
        for (int i = 0; i < 18; i++) {
            due("pleat(0, " + i + ", false)", x.pleat(0, i, false), 0);
            due("pleat(1, " + i + ", false)", x.pleat(1, i, false), i == 5 || i == 11 || i == 17 ? 1 : 0);
            sum += x.pleat(1, i, false);
        }
        due("all of them", sum, 3);
        due("pleat(0, 18, false)", x.pleat(0, 18, false), NONE);
    }

    private static void pleatNumbers() {
        Edges.says(12, "NONE if there is none such.");
        for (int w : Edges.row(Edges.LEAST, -1, 4, 11, 12, Edges.MOST)) {
            States.BUSY.by("pleat(" + w + ", 0, false)", x -> x.pleat(w, 0, false), NONE);
            States.BUSY.by("pleat(" + w + ", 0, true)", x -> x.pleat(w, 0, true), NONE);
            States.NEW.by("pleat(" + w + ", 0, true)", x -> x.pleat(w, 0, true), NONE);
        }
        States.NEW.by("pleat(0, 0, false)", x -> x.pleat(0, 0, false), NONE);
        States.FULL.by("pleat(12, 0, false)", x -> x.pleat(12, 0, false), NONE);
        // Window 11 of the full house has one pleat and two gaps.
        for (int i : Edges.row(Edges.LEAST, Edges.LEAST + 1, -2, -1, 1, 2, Edges.MOST - 1, Edges.MOST)) {
            States.FULL.by("pleat(11, " + i + ", false)", x -> x.pleat(11, i, false), NONE);
        }
        for (int i : Edges.row(Edges.LEAST, Edges.LEAST + 1, -2, -1, 2, 3, Edges.MOST - 1, Edges.MOST)) {
            States.FULL.by("pleat(11, " + i + ", true)", x -> x.pleat(11, i, true), NONE);
        }
        due("pleat(11, 0, false)", States.full().pleat(11, 0, false), 140);
        due("pleat(11, 1, true)", States.full().pleat(11, 1, true), 70);
    }

    public static void main(String[] args) {
        windowParts();
        nothingStays();
        windowNumbers();
        sides();
        pleatsAndMore();
        panels();
        longs();
        lackingDrops();
        layerNumbers();
        shares();
        pleatNumbers();
        Edges.finish(10, 12);
    }
}
