import java.util.Arrays;

/** Each promise of the document by its number: ordinary calls, the edges, and wrong calls. */
public final class PromiseTest {
    private static final int NONE = CurtainHouse.NONE;
    private static final int LEAST = Integer.MIN_VALUE;
    private static final int MOST = Integer.MAX_VALUE;
    private static int wrong = 0;
    private static String promise = "";

    private static void due(String call, long got, long want) {
        if (got != want) {
            wrong++;
            System.out.println(promise + ": " + call + " answered " + got + ", due is " + want);
        }
    }

    private static int tell(House x, String text) {
        return x.tell(text);
    }

    /** A house with one plain cloth of 300 and bolts of it. */
    private static House plain(int... lengths) {
        return house(0, false, lengths);
    }

    private static House house(int repeat, boolean half, int... lengths) {
        House x = new House();
        due("cloth", x.cloth(300, repeat, half, 0), 0);
        for (int i = 0; i < lengths.length; i++) {
            due("bolt", x.bolt(0, lengths[i]), i);
        }
        return x;
    }

    private static String win(String name, int panels, int length) {
        return House.win(name, panels, length);
    }

    private static String split(String name, int panels, int length) {
        return House.split(name, panels, length);
    }

    private static void a01NewObject() {
        House x = new House();
        for (int what = 0; what <= 3; what++) {
            due("about(" + what + ")", x.about(what), 0);
        }
        due("window(0, 0)", x.window(0, 0), NONE);
        due("boltOf(0, 0)", x.boltOf(0, 0), NONE);
        due("lacks(0)", x.lacks(0), NONE);
        due("lost()", x.lost(), 0);
        due("benches()", x.benches(), 0);
        due("order() of nothing", x.order(), 0);
    }

    private static void a02Cloth() {
        int[][] bad = {{299, 0, 0, 0}, {2001, 0, 0, 0}, {300, -1, 0, 0}, {300, 801, 0, 0}, {300, 0, 0, -1},
            {300, 0, 0, 201}, {300, 0, 1, 0}, {300, 3, 1, 0}, {LEAST, 0, 0, 0}, {MOST, 0, 0, 0}, {300, LEAST, 1, 0},
            {300, MOST, 0, 0}, {300, 0, 0, MOST}, {300, 0, 0, LEAST}, {300, -2, 1, 0}};
        House x = new House();
        for (int[] b : bad) {
            due("cloth" + Arrays.toString(b), x.cloth(b[0], b[1], b[2] == 1, b[3]), NONE);
        }
        due("cloth(300, 0, false, 0)", x.cloth(300, 0, false, 0), 0);
        due("cloth(2000, 800, true, 200)", x.cloth(2000, 800, true, 200), 1);
        due("cloth(300, 3, false, 0)", x.cloth(300, 3, false, 0), 2);
        due("cloth(300, 2, true, 0)", x.cloth(300, 2, true, 0), 3);
        due("the 5th", x.cloth(300, 0, false, 0), 4);
        due("the 6th", x.cloth(300, 0, false, 0), 5);
        due("the 7th", x.cloth(300, 0, false, 0), NONE);
        due("about(0)", x.about(0), 6);
    }

    private static void a03Bolt() {
        House x = plain();
        due("bolt(-1, 100)", x.bolt(-1, 100), NONE);
        due("bolt(1, 100)", x.bolt(1, 100), NONE);
        due("bolt(0, 99)", x.bolt(0, 99), NONE);
        due("bolt(0, 60001)", x.bolt(0, 60001), NONE);
        due("bolt(MOST, 100)", x.bolt(MOST, 100), NONE);
        due("bolt(LEAST, 100)", x.bolt(LEAST, 100), NONE);
        due("bolt(0, 100)", x.bolt(0, 100), 0);
        due("bolt(0, 60000)", x.bolt(0, 60000), 1);
        for (int b = 2; b < 12; b++) {
            due("bolt " + b, x.bolt(0, 1000), b);
        }
        due("the 13th", x.bolt(0, 1000), NONE);
        due("about(1)", x.about(1), 12);
    }

    private static void a04Flaw() {
        House x = plain(1000);
        due("flaw(-1, 0)", x.flaw(-1, 0), NONE);
        due("flaw(1, 0)", x.flaw(1, 0), NONE);
        due("flaw(0, -1)", x.flaw(0, -1), NONE);
        due("flaw(0, 1000)", x.flaw(0, 1000), NONE);
        due("flaw(0, MOST)", x.flaw(0, MOST), NONE);
        due("flaw(0, LEAST)", x.flaw(0, LEAST), NONE);
        due("order()", tell(x, win("a", 1, 300)), 1);
        due("cut(0)", x.cut(0), 1);
        due("flaw ahead of USED", x.flaw(0, 299), NONE);
        due("flaw at USED", x.flaw(0, 300), 1);
        due("flaw again", x.flaw(0, 300), NONE);
        due("flaw at the end", x.flaw(0, 999), 2);
        due("the 3rd", x.flaw(0, 500), 3);
        due("the 4th", x.flaw(0, 301), 4);
        due("the 5th", x.flaw(0, 600), NONE);
    }

    private static void a05BoltOf() {
        House x = plain(1000);
        x.cloth(400, 0, false, 0);
        due("bolt(1, 2000)", x.bolt(1, 2000), 1);
        x.flaw(1, 700);
        x.flaw(1, 50);
        int[] want = {1, 2000, 0, 2, NONE, NONE, NONE, NONE, NONE, NONE, 700, 50, NONE, NONE, NONE};
        for (int what = 0; what < want.length; what++) {
            due("boltOf(1, " + what + ")", x.boltOf(1, what), want[what]);
        }
        due("boltOf(1, -1)", x.boltOf(1, -1), NONE);
        due("boltOf(1, LEAST)", x.boltOf(1, LEAST), NONE);
        due("boltOf(1, MOST)", x.boltOf(1, MOST), NONE);
        due("boltOf(2, 0)", x.boltOf(2, 0), NONE);
        due("boltOf(-1, 0)", x.boltOf(-1, 0), NONE);
    }

    private static void a06Feed() {
        House x = plain();
        for (int i = 1; i <= 30; i++) {
            due("feed", x.feed(0x20202020, 0x20202020, 0x20202020, 0x20202020, 0x20202020), 20 * i);
        }
        due("the 31st feed", x.feed(0, 0, 0, 0, 0), NONE);
        due("about(3)", x.about(3), 600);
        due("order() of blanks", x.order(), 0);
        due("feed", x.feed(0, 0, 0, 0, 0), 20);
        x.end(1);
        for (int i = 1; i <= 29; i++) {
            x.feed(0, 0, 0, 0, 0);
        }
        due("about(3)", x.about(3), 581);
        due("feed at 581", x.feed(0, 0, 0, 0, 0), NONE);
        due("end(580)", x.end(580), 580);
        due("feed at 580", x.feed(0, 0, 0, 0, 0), 600);
    }

    private static void a07End() {
        House x = plain();
        due("end(0)", x.end(0), 0);
        due("end(1)", x.end(1), NONE);
        x.feed(0x3b3b3b3b, 0, 0, 0, 0);
        due("end(-1)", x.end(-1), NONE);
        due("end(LEAST)", x.end(LEAST), NONE);
        due("end(21)", x.end(21), NONE);
        due("about(3)", x.about(3), 20);
        due("end(20)", x.end(20), 20);
        due("end(3)", x.end(3), 3);
        due("end(4)", x.end(4), NONE);
        due("about(3)", x.about(3), 3);
        due("end(0)", x.end(0), 0);
        due("order()", x.order(), 0);
    }

    private static void a08Order() {
        House x = plain(1000);
        due("order()", tell(x, win("a", 1, 300) + "\n" + win("A", 2, 300)), 2);
        due("the tape", x.about(3), 0);
        due("order() with a fault", tell(x, win("a", 1, 300) + ";"), NONE);
        due("the tape", x.about(3), 0);
        due("the order stays", x.about(2), 2);
        due("the order stays", x.layer(1, 0, 0), 2);
        due("order() of nothing", x.order(), 0);
        due("about(2)", x.about(2), 0);
        due("names of all letters", tell(x, win("azAZ", 1, 300) + win("z", 1, 300) + win("Z", 1, 300)), 3);
        StringBuilder twelve = new StringBuilder();
        for (int i = 0; i < 12; i++) {
            twelve.append("window ").append((char) ('a' + i)).append(":wide 100drop 200face 0;");
        }
        due("12 windows", tell(x, twelve.toString()), 12);
        due("the 12th", x.window(11, 0), 100);
    }

    private static void fault(House x, String text, int kind, int place) {
        tell(x, text);
        due("fault(0) of '" + text + "'", x.fault(0), kind);
        due("fault(1) of '" + text + "'", x.fault(1), place);
    }

    private static void a09Fault() {
        House x = plain();
        due("fault(0)", x.fault(0), NONE);
        due("fault(1)", x.fault(1), NONE);
        String good = "window a:wide 100 drop 200 face 0;";
        fault(x, good, 0, NONE);
        due("fault(2)", x.fault(2), NONE);
        due("fault(-1)", x.fault(-1), NONE);
        // 1: what can't stand there, or is none
        fault(x, "a", 1, 0);
        fault(x, ";", 1, 0);
        fault(x, " \n;", 1, 2);
        fault(x, "Window a:", 1, 0);
        fault(x, "windowa:", 1, 0);
        fault(x, "window", 1, 6);
        fault(x, "window  ", 1, 8);
        fault(x, "window a", 1, 8);
        fault(x, "window a:", 1, 9);
        fault(x, "window 1:", 1, 7);
        fault(x, "window split:", 1, 7);
        fault(x, "window abcdefghi:", 1, 7);
        fault(x, "window abcdefgh;", 1, 15);
        fault(x, "window a b:", 1, 9);
        fault(x, "window a1:", 1, 8);
        fault(x, "window a:window", 1, 9);
        fault(x, "window a:b", 1, 9);
        fault(x, "window a:1", 1, 9);
        fault(x, "window a::", 1, 9);
        fault(x, "window a:wide;", 1, 13);
        fault(x, "window a:wide wide", 1, 14);
        fault(x, "window a:split 1", 1, 15);
        fault(x, "window a:drop 200 200", 1, 18);
        fault(x, "window a:wide 100 split 100", 1, 24);
        fault(x, "window a:wide 100\t", 1, 17);
        fault(x, "window a:wide 100\r", 1, 17);
        fault(x, "\0", 1, 0);
        fault(x, "window a:wide 100 \u00e9", 1, 18);
        fault(x, good + "\u0080", 1, good.length());
        // 2: for the second time
        fault(x, good + "window a:", 2, good.length() + 7);
        fault(x, good + "window A:", 1, good.length() + 9);
        String[] parts = {"wide 100", "drop 200", "face 0", "lining 0", "full 100", "hems 0", "split"};
        for (String part : parts) {
            fault(x, "window a:" + part + " " + part, 2, 10 + part.length());
        }
        // 3: numbers that aren't told
        fault(x, "window a:wide 99", 3, 14);
        fault(x, "window a:wide 5001", 3, 14);
        fault(x, "window a:wide 5000 99", 3, 19);
        fault(x, "window a:drop 199", 3, 14);
        fault(x, "window a:drop 5001", 3, 14);
        fault(x, "window a:face 1", 3, 14);
        fault(x, "window a:lining 1", 3, 16);
        fault(x, "window a:full 99", 3, 14);
        fault(x, "window a:full 401", 3, 14);
        fault(x, "window a:hems 1001", 3, 14);
        fault(x, "window a:hems 4294967296", 3, 14);
        fault(x, "window a:hems 18446744073709551616", 3, 14);
        fault(x, "window a:hems 0000000000000000001000", 1, 36);
        // 4: too many
        fault(x, "window a:wide 100 100 100 100 100 100 100 100 100", 4, 46);
        fault(x, "window a:wide 100 100 100 100 100 100 100 100 99", 3, 46);
        fault(x, "window a:wide 100 100 100 100 100 100 100 100", 1, 45);
        StringBuilder twelve = new StringBuilder();
        for (int i = 0; i < 12; i++) {
            twelve.append("window ").append((char) ('a' + i)).append(":wide 100drop 200face 0;");
        }
        int n = twelve.length();
        fault(x, twelve + "window m:", 4, n + 7);
        fault(x, twelve + "window a:", 2, n + 7);
        fault(x, twelve + "window 1:", 1, n + 7);
        fault(x, twelve + "window", 1, n + 6);
        // 5: at the ;
        fault(x, "window a:;", 5, 9);
        fault(x, "window a:drop 200 face 0;", 5, 24);
        fault(x, "window a:wide 100 face 0;", 5, 24);
        fault(x, "window a:wide 100 drop 200;", 5, 26);
        fault(x, "window a:wide 1120 drop 200 face 0;", 0, NONE);
        fault(x, "window a:wide 1121 drop 200 face 0;", 5, 34);
        // a lining of 9 panels too
        x.cloth(600, 0, false, 0);
        fault(x, "window a:wide 1120 drop 200 face 1 lining 0;", 0, NONE);
        fault(x, "window a:wide 1121 drop 200 face 1 lining 0;", 5, 43);
    }

    private static void a10Window() {
        House x = new House();
        x.cloth(1020, 0, false, 0);
        x.cloth(520, 0, false, 100);
        tell(x, "window bay:wide 500 700 600 drop 1999 face 1 lining 0 full 150 hems 0 split;"
            + "window b:drop 5000 face 0 wide 100;");
        int[] bay = {1800, 1999, 1, 0, 150, 0, 1, 15, 1200, 10 + 6 * 19, 35, NONE};
        int[] b = {100, 5000, 0, NONE, 200, 300, 0, 1, 900, 10 + 50, 7, NONE};
        for (int what = 0; what < bay.length; what++) {
            due("window(0, " + what + ")", x.window(0, what), bay[what]);
            due("window(1, " + what + ")", x.window(1, what), b[what]);
            due("window(2, " + what + ")", x.window(2, what), NONE);
            due("window(-1, " + what + ")", x.window(-1, what), NONE);
        }
        due("window(0, -1)", x.window(0, -1), NONE);
        due("window(MOST, 0)", x.window(MOST, 0), NONE);
        due("window(LEAST, 0)", x.window(LEAST, 0), NONE);
        // pleats: 239 and 240, and 8 sides
        tell(x, "window a:wide 239 drop 200 face 0;window b:wide 240 drop 200 face 0;"
            + "window c:wide 100 101 102 103 104 105 106 107 drop 200 face 0;");
        due("pleats of 239", x.window(0, 7), 1);
        due("pleats of 240", x.window(1, 7), 2);
        due("8 sides", x.window(2, 0), 828);
    }

    private static void a11Layer() {
        House x = new House();
        x.cloth(300, 0, false, 0);
        x.cloth(1020, 0, false, 200);
        x.cloth(520, 0, false, 7);
        tell(x, "window a:wide 139 drop 200 face 0 full 202;window b:wide 140 drop 200 face 0;"
            + "window c:wide 1400 drop 201 hems 300 face 1 lining 2;");
        // The quotient is rounded as a whole: 280.78 by 280.
        due("panels of a", x.layer(0, 0, 0), 2);
        due("panels of b", x.layer(1, 0, 0), 1);
        due("panels of c", x.layer(2, 0, 0), 3);
        due("panels of c's lining", x.layer(2, 1, 0), 6);
        due("long of a", x.layer(0, 0, 1), 500);
        due("long of c", x.layer(2, 0, 1), 627);
        due("long of c's lining", x.layer(2, 1, 1), 505);
        due("lacking of c's lining", x.layer(2, 1, 2), 6);
        x.cloth(300, 0, false, 1);
        tell(x, "window d:wide 140 drop 999 hems 0 face 3;window e:wide 140 drop 1000 hems 0 face 3;");
        due("long of 999000 by 999", x.layer(0, 0, 1), 1000);
        due("long of 1000000 by 999", x.layer(1, 0, 1), 1002);
        tell(x, "window a:wide 139 drop 200 face 0 full 202;window b:wide 140 drop 200 face 0;"
            + "window c:wide 1400 drop 201 hems 300 face 1 lining 2;");
        x.bolt(2, 10000);
        due("cut(2)", x.cut(2), 6);
        due("lacking of c's lining", x.layer(2, 1, 2), 0);
        due("lacking of c", x.layer(2, 0, 2), 3);
        int[][] bad = {{0, 1, 0}, {0, 2, 0}, {0, -1, 0}, {3, 0, 0}, {-1, 0, 0}, {2, 0, 3}, {2, 0, -1}, {MOST, 0, 0},
            {0, MOST, 0}, {0, LEAST, 0}, {0, 0, MOST}};
        for (int[] b : bad) {
            due("layer" + Arrays.toString(b), x.layer(b[0], b[1], b[2]), NONE);
        }
    }

    private static void a12Pleat() {
        House x = new House();
        x.cloth(1020, 0, false, 0);
        tell(x, "window a:wide 500 drop 200 face 0;window b:wide 100 drop 200 face 0 full 100;");
        // a: MORE 500, 4 pleats, 5 gaps; b: MORE 900, 1 pleat, 2 gaps
        int[] pleats = {125, 125, 125, 125, NONE};
        for (int i = 0; i < 5; i++) {
            due("pleat(0, " + i + ", false)", x.pleat(0, i, false), pleats[i]);
            due("pleat(0, " + i + ", true)", x.pleat(0, i, true), 100);
        }
        due("pleat(0, 5, true)", x.pleat(0, 5, true), NONE);
        due("pleat(1, 0, false)", x.pleat(1, 0, false), 900);
        due("pleat(1, 1, false)", x.pleat(1, 1, false), NONE);
        due("pleat(1, 0, true)", x.pleat(1, 0, true), 50);
        due("pleat(1, 1, true)", x.pleat(1, 1, true), 50);
        due("pleat(1, 2, true)", x.pleat(1, 2, true), NONE);
        // c: MORE 1000 - 370 = 630 by 3; 370 by 4: 92, 185, 277, 370
        tell(x, "window c:wide 370 drop 200 face 0;");
        int[] gaps = {92, 93, 92, 93};
        for (int i = 0; i < 4; i++) {
            due("pleat(0, " + i + ", true)", x.pleat(0, i, true), gaps[i]);
        }
        due("pleat(0, 2, false)", x.pleat(0, 2, false), 210);
        due("pleat(0, -1, false)", x.pleat(0, -1, false), NONE);
        due("pleat(0, -1, true)", x.pleat(0, -1, true), NONE);
        due("pleat(0, MOST, true)", x.pleat(0, MOST, true), NONE);
        due("pleat(0, LEAST, true)", x.pleat(0, LEAST, true), NONE);
        due("pleat(1, 0, true)", x.pleat(1, 0, true), NONE);
        due("pleat(-1, 0, true)", x.pleat(-1, 0, true), NONE);
    }

    private static void drops(House x, int w, int... boltsAndPlaces) {
        for (int p = 0; 2 * p < boltsAndPlaces.length; p++) {
            due("drop(" + w + ", 0, " + p + ", 0)", x.drop(w, 0, p, 0), boltsAndPlaces[2 * p]);
            due("drop(" + w + ", 0, " + p + ", 1)", x.drop(w, 0, p, 1), boltsAndPlaces[2 * p + 1]);
        }
    }

    private static void a13Drop() {
        // Neighbours half a repeat apart.
        House x = house(100, true, 1100);
        tell(x, win("a", 3, 300));
        drops(x, 0, NONE, NONE, NONE, NONE, NONE, NONE);
        due("cut(0)", x.cut(0), 3);
        drops(x, 0, 0, 0, 0, 350, 0, 700);
        due("length", x.drop(0, 0, 1, 2), 300);
        int[][] bad = {{0, 0, 3, 0}, {0, 0, -1, 0}, {0, 1, 0, 0}, {0, 2, 0, 0}, {0, -1, 0, 0}, {1, 0, 0, 0},
            {-1, 0, 0, 0}, {0, 0, 0, 3}, {0, 0, 0, -1}, {0, 0, MOST, 0}, {0, 0, LEAST, 0}, {MOST, 0, 0, 0}};
        for (int[] b : bad) {
            due("drop" + Arrays.toString(b), x.drop(b[0], b[1], b[2], b[3]), NONE);
        }
        // Neighbours at whole repeats, and none at all.
        x = house(100, false, 1000);
        tell(x, win("a", 3, 250));
        x.cut(0);
        drops(x, 0, 0, 0, 0, 300, 0, 600);
        x = plain(750);
        tell(x, win("a", 3, 250));
        x.cut(0);
        drops(x, 0, 0, 0, 0, 250, 0, 500);
        // Flaws: at a drop's first and last place, and just behind it.
        x = plain(2000);
        x.flaw(0, 0);
        x.flaw(0, 300);
        x.flaw(0, 601);
        x.flaw(0, 902);
        tell(x, win("a", 3, 300));
        x.cut(0);
        drops(x, 0, 0, 301, 0, 602, 0, 903);
        // A flaw that the pattern makes dear.
        x = house(400, true, 2000);
        x.flaw(0, 800);
        tell(x, win("a", 2, 300));
        x.cut(0);
        drops(x, 0, 0, 0, 0, 1000);
    }

    private static void a14Lost() {
        House x = plain(5000, 5000);
        x.cloth(300, 0, false, 0);
        x.bolt(1, 9000);
        String ab = win("a", 3, 300) + win("b", 2, 300);
        tell(x, ab);
        due("cut(0)", x.cut(0), 5);
        due("lost()", x.lost(), 0);
        tell(x, ab + ";");
        due("lost() behind a fault", x.lost(), 0);
        tell(x, win("b", 2, 300) + win("a", 3, 300));
        due("lost() if nothing changes but the numbers", x.lost(), 0);
        drops(x, 0, 0, 900, 0, 1200);
        tell(x, win("a", 2, 250) + win("b", 3, 300));
        due("lost() with a panel less", x.lost(), 1);
        due("length as it was cut", x.drop(0, 0, 0, 2), 300);
        due("b lacks one", x.layer(1, 0, 2), 1);
        tell(x, win("a", 2, 300) + win("b", 2, 301));
        due("lost() if longer by one", x.lost(), 3);
        tell(x, win("a", 2, 300).replace("face 0", "face 1"));
        due("lost() in another cloth", x.lost(), 5);
        due("USED stays", x.boltOf(0, 2), 1500);
        tell(x, win("a", 2, 300));
        drops(x, 0, NONE, NONE);
        due("cut(0)", x.cut(0), 2);
        tell(x, win("a", 2, 300).replace("face 0", "face 1 lining 0"));
        due("lost() as the layer is another", x.lost(), 7);
        due("cut(0)", x.cut(0), 2);
        due("cut(1)", x.cut(1), 2);
        tell(x, win("a", 2, 300).replace("face 0", "face 1"));
        due("lost() without the lining", x.lost(), 9);
        tell(x, "");
        due("lost() without the window", x.lost(), 11);
        // A window that is split no more keeps the lowest bolt's.
        x = plain(300, 700);
        tell(x, split("a", 3, 300));
        due("cut(0)", x.cut(0), 3);
        drops(x, 0, 1, 0, 1, 300, 0, 0);
        tell(x, split("a", 3, 299));
        due("lost()", x.lost(), 0);
        tell(x, win("a", 3, 300));
        due("lost() where it is split no more", x.lost(), 2);
        drops(x, 0, NONE, NONE, NONE, NONE, 0, 0);
        x = plain(300, 700);
        tell(x, split("a", 3, 300));
        x.cut(0);
        tell(x, win("a", 2, 300));
        due("lost() where those that would stay are of one bolt", x.lost(), 1);
        drops(x, 0, 1, 0, 1, 300);
    }

    private static void a15Plan() {
        House x = plain(300, 299);
        due("plan(-1)", x.plan(-1), NONE);
        due("plan(1)", x.plan(1), NONE);
        due("plan(MOST)", x.plan(MOST), NONE);
        due("plan(0)", x.plan(0), 0);
        tell(x, win("a", 1, 300));
        due("plan(0)", x.plan(0), 1);
        due("plan changes nothing", x.layer(0, 0, 2), 1);
        tell(x, win("a", 1, 301));
        due("plan(0) one too short", x.plan(0), NONE);
        // A window's drops come out of one bolt, unless it is split.
        x = plain(400, 400);
        tell(x, win("a", 2, 300));
        due("plan(0) of one window", x.plan(0), NONE);
        tell(x, split("a", 2, 300));
        due("plan(0) of a split one", x.plan(0), 2);
        // Fewest bolts; bolts of other cloths don't count.
        x = plain(600, 600, 900);
        x.cloth(300, 0, false, 0);
        x.bolt(1, 60000);
        tell(x, win("a", 1, 300) + win("b", 1, 300) + win("c", 1, 300));
        due("plan(0)", x.plan(0), 1);
        tell(x, win("a", 1, 300) + win("b", 1, 300) + win("c", 1, 301));
        due("plan(0)", x.plan(0), 2);
        // Ten items, and eleven.
        x = plain(3000);
        tell(x, split("a", 8, 300) + win("b", 1, 300) + win("c", 1, 300));
        due("plan(0) of 10 items", x.plan(0), 1);
        tell(x, split("a", 8, 300) + win("b", 1, 300) + win("c", 1, 200) + win("d", 1, 200));
        due("plan(0) of 11 items", x.plan(0), -2);
        due("plan(1)", x.plan(1), NONE);
        x = plain();
        tell(x, split("a", 8, 300) + split("b", 3, 300));
        due("plan(0) of 11 items without bolts", x.plan(0), -2);
        // Both layers of a window, each by itself.
        x = plain(600, 700);
        tell(x, win("a", 2, 300).replace("face 0", "face 0 lining 0"));
        due("plan(0) of face and lining", x.plan(0), 2);
        // What is cut already ties the rest of its layer to its bolt.
        x = plain(500, 600);
        tell(x, win("a", 1, 300));
        x.cut(0);
        tell(x, win("a", 2, 300));
        due("plan(0) from the bolt of the others", x.plan(0), NONE);
        tell(x, split("a", 2, 300));
        due("plan(0) of a split one", x.plan(0), 1);
        tell(x, win("a", 2, 200));
        due("plan(0) from the bolt of the others", x.plan(0), 1);
        x.cut(0);
        drops(x, 0, 0, 0, 0, 300);
        // One order of two fits.
        x = house(100, false, 550);
        tell(x, win("a", 1, 250) + win("b", 1, 300));
        due("plan(0) with b first", x.plan(0), 1);
        x = house(100, false, 549);
        tell(x, win("a", 1, 250) + win("b", 1, 300));
        due("plan(0) in no order", x.plan(0), NONE);
    }

    private static void a16Bound() {
        House x = plain(500, 900, 600);
        due("bound(-1)", x.bound(-1), NONE);
        due("bound(1)", x.bound(1), NONE);
        due("bound(0)", x.bound(0), 0);
        tell(x, win("a", 3, 300));
        due("bound(0) of 900", x.bound(0), 1);
        tell(x, win("a", 5, 300));
        due("bound(0) of 1500", x.bound(0), 2);
        tell(x, win("a", 4, 375) + win("b", 1, 201));
        due("bound(0) of 1701", x.bound(0), 3);
        tell(x, win("a", 8, 250));
        due("bound(0) of 2000", x.bound(0), 3);
        tell(x, win("a", 7, 250) + win("b", 1, 251));
        due("bound(0) of 2001", x.bound(0), NONE);
        tell(x, win("a", 1, 300));
        x.cut(0);
        tell(x, win("a", 4, 300));
        due("bound(0) behind USED", x.bound(0), 1);
        tell(x, win("a", 1, 300) + win("b", 4, 250));
        due("bound(0) behind USED", x.bound(0), 2);
        tell(x, split("a", 8, 200) + split("b", 4, 200));
        due("bound(0) of more than 10 items", x.bound(0), NONE);
    }

    private static void a17Cut() {
        House x = plain(300);
        due("cut(-1)", x.cut(-1), NONE);
        due("cut(1)", x.cut(1), NONE);
        due("cut(0)", x.cut(0), 0);
        tell(x, win("a", 2, 300));
        due("cut(0) without a way", x.cut(0), NONE);
        due("USED", x.boltOf(0, 2), 0);
        tell(x, split("a", 8, 300) + split("b", 3, 300));
        due("cut(0) of 11 items", x.cut(0), -2);
        // The lowest bolt has the greatest number: b and d before a and c.
        x = plain(600, 600);
        tell(x, win("a", 1, 300) + win("b", 1, 200) + win("c", 1, 250) + win("d", 1, 380));
        due("cut(0)", x.cut(0), 4);
        drops(x, 1, 0, 0);
        drops(x, 3, 0, 200);
        drops(x, 0, 1, 0);
        drops(x, 2, 1, 300);
        due("USED", x.boltOf(0, 2), 580);
        due("USED", x.boltOf(1, 2), 550);
        // Ten items on twelve bolts, one each: the lowest bolt has the last of them.
        x = plain(300, 300, 300, 300, 300, 300, 300, 300, 300, 300, 300, 300);
        tell(x, split("a", 8, 300) + split("b", 2, 300));
        due("plan(0)", x.plan(0), 10);
        due("cut(0)", x.cut(0), 10);
        drops(x, 0, 9, 0, 8, 0, 7, 0, 6, 0, 5, 0, 4, 0, 3, 0, 2, 0);
        drops(x, 1, 1, 0, 0, 0);
        due("USED of the 11th", x.boltOf(10, 2), 0);
        // Ten items on one bolt, of which the last two come best behind one another.
        x = house(100, false, 60000);
        tell(x, split("a", 8, 250) + win("b", 1, 240) + win("c", 1, 300));
        due("cut(0)", x.cut(0), 10);
        drops(x, 0, 0, 0, 0, 300, 0, 600, 0, 900, 0, 1200, 0, 1500, 0, 1800, 0, 2100);
        drops(x, 2, 0, 2400);
        drops(x, 1, 0, 2700);
        due("USED", x.boltOf(0, 2), 2940);
        // Nothing in the lowest bolt, if that takes fewer bolts.
        x = plain(300, 600);
        tell(x, win("a", 1, 300) + win("b", 1, 300));
        due("cut(0)", x.cut(0), 2);
        drops(x, 0, 1, 0);
        drops(x, 1, 1, 300);
        due("USED of the other", x.boltOf(0, 2), 0);
        // The earliest end comes before the lower item.
        x = house(100, false, 1000);
        tell(x, win("a", 1, 250) + win("b", 1, 300));
        x.cut(0);
        drops(x, 1, 0, 0);
        drops(x, 0, 0, 300);
        due("USED", x.boltOf(0, 2), 550);
        // Of orders with the same end the first: b first leaves the end as it is, a first too.
        x = house(100, false, 2000);
        tell(x, win("a", 1, 250) + win("b", 1, 250) + win("c", 1, 300));
        x.cut(0);
        drops(x, 0, 0, 0);
        drops(x, 2, 0, 300);
        drops(x, 1, 0, 600);
        due("USED", x.boltOf(0, 2), 850);
        // A flaw that the shorter one fits ahead of.
        x = plain(1000);
        x.flaw(0, 250);
        tell(x, win("a", 1, 300) + win("b", 1, 200));
        x.cut(0);
        drops(x, 1, 0, 0);
        drops(x, 0, 0, 251);
        // A second cut goes on behind the first.
        tell(x, win("a", 1, 300) + win("b", 1, 200) + win("c", 1, 400));
        due("cut(0)", x.cut(0), 1);
        drops(x, 2, 0, 551);
        due("USED", x.boltOf(0, 2), 951);
        due("cut(0) again", x.cut(0), 0);
    }

    private static void a18Lacks() {
        House x = plain(60000);
        x.cloth(300, 0, false, 100);
        due("lacks(-1)", x.lacks(-1), NONE);
        due("lacks(2)", x.lacks(2), NONE);
        due("lacks(0)", x.lacks(0), 0);
        tell(x, win("a", 3, 300).replace("face 0", "face 0 lining 1") + win("b", 2, 250).replace("face 0", "face 1"));
        due("lacks(0)", x.lacks(0), 900);
        due("lacks(1)", x.lacks(1), 3 * 334 + 2 * 278);
        x.cut(0);
        due("lacks(0)", x.lacks(0), 0);
        due("lacks(1)", x.lacks(1), 3 * 334 + 2 * 278);
        tell(x, win("a", 4, 300));
        due("lacks(0)", x.lacks(0), 300);
    }

    /** Windows of one cloth of 2000, all cut: minutes 10 + drop / 100 (one panel), 5 + 2 * pleats. */
    private static House benchHouse(int[][] wideAndDrop) {
        House x = new House();
        x.cloth(2000, 0, false, 0);
        x.bolt(0, 60000);
        StringBuilder text = new StringBuilder();
        for (int i = 0; i < wideAndDrop.length; i++) {
            text.append("window ").append((char) ('a' + i)).append(":wide ").append(wideAndDrop[i][0])
                .append(" drop ").append(wideAndDrop[i][1]).append(" face 0 full 100;");
        }
        due("order()", tell(x, text.toString()), wideAndDrop.length);
        due("cut(0)", x.cut(0), wideAndDrop.length);
        return x;
    }

    private static void benchRow(House x, int i, int window, int done) {
        due("bench(" + i + ", 0)", x.bench(i, 0), window);
        due("bench(" + i + ", 1)", x.bench(i, 1), done);
    }

    private static void a19Benches() {
        House x = plain(300);
        due("benches()", x.benches(), 0);
        tell(x, win("a", 1, 300) + win("b", 2, 300).replace("face 0", "face 0 lining 0"));
        due("benches() if all lack", x.benches(), 0);
        tell(x, win("a", 1, 300));
        x.cut(0);
        due("benches()", x.benches(), 12 + 7);
        x.bolt(0, 600);
        tell(x, win("a", 1, 300) + win("b", 2, 300));
        due("benches() while b lacks", x.benches(), 12 + 7);
        x.cut(0);
        // a: 12, 7; b: 14, 9: both with more at the first, b first
        due("benches()", x.benches(), 14 + 12 + 7);
        // A lining that lacks holds a window back.
        tell(x, win("a", 1, 300).replace("face 0", "face 0 lining 0"));
        due("benches() without the lining", x.benches(), 0);
    }

    private static void a20Bench() {
        // minutes: a 30, 9; b 12, 21; c 15, 15; d 12, 31; e 40, 9; f 12, 21
        House x = benchHouse(new int[][] {{240, 2000}, {960, 200}, {600, 500}, {1560, 299}, {240, 3000},
            {960, 200}});
        benchRow(x, 0, 1, 12 + 21);
        benchRow(x, 1, 3, 33 + 31);
        benchRow(x, 2, 5, 64 + 21);
        benchRow(x, 3, 2, 85 + 15);
        // the first bench: 12, 24, 36, 51, 81, 121
        benchRow(x, 4, 0, 100 + 9);
        benchRow(x, 5, 4, 121 + 9);
        benchRow(x, 6, NONE, NONE);
        benchRow(x, -1, NONE, NONE);
        benchRow(x, MOST, NONE, NONE);
        benchRow(x, LEAST, NONE, NONE);
        due("benches()", x.benches(), 130);
        due("bench(0, 2)", x.bench(0, 2), NONE);
        due("bench(0, -1)", x.bench(0, -1), NONE);
        // as many at the first as at the second: among the first ones
        x = benchHouse(new int[][] {{240, 3000}, {600, 500}, {1200, 3000}});
        benchRow(x, 0, 1, 30);
        benchRow(x, 1, 2, 15 + 40 + 25);
        benchRow(x, 2, 0, 15 + 40 + 40 + 9);
    }

    private static void a21About() {
        House x = plain(300, 400);
        tell(x, win("a", 1, 300) + win("b", 1, 300) + win("c", 1, 300));
        x.put("window d");
        int[] want = {1, 2, 3, 8, NONE};
        for (int what = 0; what < want.length; what++) {
            due("about(" + what + ")", x.about(what), want[what]);
        }
        due("about(-1)", x.about(-1), NONE);
        due("about(MOST)", x.about(MOST), NONE);
        due("NONE", CurtainHouse.NONE, -1);
    }

    public static void main(String[] args) throws ReflectiveOperationException {
        java.lang.reflect.Method[] methods = PromiseTest.class.getDeclaredMethods();
        Arrays.sort(methods, (one, other) -> one.getName().compareTo(other.getName()));
        int run = 0;
        for (java.lang.reflect.Method m : methods) {
            if (m.getName().matches("a[0-9][0-9].*")) {
                promise = "promise " + m.getName().substring(1, 3);
                m.invoke(null);
                run++;
            }
        }
        due("promises that have a test", run, 21);
        System.out.println(wrong == 0 ? "all promises hold" : wrong + " answers are not as due");
        if (wrong != 0) {
            System.exit(1);
        }
    }
}
