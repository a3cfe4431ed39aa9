/** The edges of promises 13 and 14: where drops lie, and what is lost of them. */
public final class DropEdgeTest {
    private static final int NONE = Edges.NONE;

    private static void due(String call, int got, int want) {
        Edges.due(call, got, want);
    }

    /** Cuts a window of so many panels out of bolt 0, each at its place; without places: no way. */
    private static void lies(House x, int panels, int length, int... places) {
        x.tell(House.win("a", panels, length));
        due("cut(0)", x.cut(0), places.length == 0 ? NONE : panels);
        for (int p = 0; p < panels; p++) {
            boolean cut = p < places.length;
            String drop = "drop(0, 0, " + p + ", ";
            due(drop + "0) of LONG " + length, x.drop(0, 0, p, 0), cut ? 0 : NONE);
            due(drop + "1) of LONG " + length, x.drop(0, 0, p, 1), cut ? places[p] : NONE);
            due(drop + "2) of LONG " + length, x.drop(0, 0, p, 2), cut ? length : NONE);
        }
    }

    // ---- promise 13

    private static void repeats() {
        Edges.says(13, "s - PHASE is a whole number of REPEATS (without REPEAT: any)");
        lies(House.plain(60000), 3, 299, 0, 299, 598);
        lies(House.patterned(1, false, 60000), 3, 299, 0, 299, 598);
        lies(House.patterned(300, false, 60000), 3, 299, 0, 300, 600);
        lies(House.patterned(300, false, 60000), 3, 300, 0, 300, 600);
        lies(House.patterned(300, false, 60000), 3, 301, 0, 600, 1200);
        lies(House.patterned(800, false, 60000), 3, 800, 0, 800, 1600);
        lies(House.patterned(800, false, 60000), 3, 801, 0, 1600, 3200);
        Edges.says(13, "PHASE of PANEL k: half the REPEAT if the CLOTH is HALF and k is odd, else 0");
        lies(House.patterned(400, true, 60000), 4, 200, 0, 200, 400, 600);
        lies(House.patterned(400, true, 60000), 4, 201, 0, 600, 1200, 1800);
        lies(House.patterned(400, true, 60000), 3, 599, 0, 600, 1200);
        lies(House.patterned(400, true, 60000), 3, 600, 0, 600, 1200);
        lies(House.patterned(400, true, 60000), 3, 601, 0, 1000, 2000);
        lies(House.patterned(400, true, 60000), 8, 250, 0, 600, 1200, 1800, 2400, 3000, 3600, 4200);
        lies(House.patterned(2, true, 60000), 8, 200, 0, 201, 402, 603, 804, 1005, 1206, 1407);
        lies(House.patterned(2, true, 60000), 3, 201, 0, 201, 402);
        Edges.says(13, "PHASE of PANEL k: of a DROP by itself too, and of one whose neighbours are cut already");
        House x = House.patterned(400, true, 600, 600);
        x.tell(House.split("a", 2, 400));
        due("cut(0)", x.cut(0), 2);
        Edges.drops(x, 0, 0, 1, 0, 0, 200);
        x = House.patterned(400, true, 60000);
        x.tell(House.win("a", 1, 300));
        x.cut(0);
        x.tell(House.win("a", 4, 300));
        due("cut(0)", x.cut(0), 3);
        Edges.drops(x, 0, 0, 0, 0, 0, 600, 0, 1200, 0, 1800);
        Edges.says(13, "PHASE: linings hang as faces do, each by its own CLOTH");
        x = House.patterned(400, true, 60000);
        x.cloth(300, 100, false, 0);
        x.bolt(1, 60000);
        x.tell(House.with(House.win("a", 3, 250), "face 1 lining 0"));
        due("cut(0)", x.cut(0), 3);
        due("cut(1)", x.cut(1), 3);
        Edges.drops(x, 0, 0, 1, 0, 1, 300, 1, 600);
        Edges.drops(x, 0, 1, 0, 0, 0, 600, 0, 1200);
    }

    private static void lengths() {
        Edges.says(13, "s + LONG is not above the LENGTH");
        lies(House.plain(300), 1, 300, 0);
        lies(House.plain(300), 1, 299, 0);
        lies(House.plain(300), 1, 301);
        lies(House.plain(200), 1, 200, 0);
        lies(House.plain(199), 1, 200);
        lies(House.plain(100), 1, 200);
        lies(House.plain(900), 3, 300, 0, 300, 600);
        lies(House.plain(899), 3, 300);
        lies(House.plain(9600), 8, 1200, 0, 1200, 2400, 3600, 4800, 6000, 7200, 8400);
        lies(House.plain(9599), 8, 1200);
        lies(House.patterned(400, true, 900), 2, 300, 0, 600);
        lies(House.patterned(400, true, 899), 2, 300);
        House x = new House();
        x.cloth(300, 0, false, 200);
        x.bolt(0, 60000);
        x.tell("window a:wide 1120 drop 5000 hems 1000 face 0;");
        due("cut(0) of 8 times 7500", x.cut(0), 8);
        due("boltOf(0, 2)", x.boltOf(0, 2), 60000);
        due("drop(0, 0, 7, 1)", x.drop(0, 0, 7, 1), 52500);
        due("drop(0, 0, 7, 2)", x.drop(0, 0, 7, 2), 7500);
    }

    private static House flawed(int repeat, int length, int... flaws) {
        House x = House.patterned(repeat, false, length);
        for (int place : flaws) {
            x.flaw(0, place);
        }
        return x;
    }

    private static void flaws() {
        Edges.says(13, "no FLAW is among s .. s + LONG - 1");
        lies(flawed(0, 301, 0), 1, 300, 1);
        lies(flawed(0, 300, 0), 1, 300);
        lies(flawed(0, 301, 300), 1, 300, 0);
        lies(flawed(0, 600, 299), 1, 300, 300);
        lies(flawed(0, 599, 299), 1, 300);
        lies(flawed(0, 2000, 150), 1, 300, 151);
        lies(flawed(0, 2000, 0, 300), 1, 300, 301);
        lies(flawed(0, 2000, 0, 301), 1, 300, 1);
        lies(flawed(0, 2000, 100, 250), 1, 300, 251);
        lies(flawed(0, 2000, 250, 100), 1, 300, 251);
        lies(flawed(0, 2000, 902, 601, 300, 0), 1, 300, 301);
        lies(flawed(0, 2000, 900, 600, 300, 299), 1, 300, 901);
        lies(flawed(0, 1200, 299, 599, 899), 1, 300, 900);
        lies(flawed(0, 1199, 299, 599, 899), 1, 300);
        lies(flawed(0, 1000, 999), 3, 300, 0, 300, 600);
        lies(flawed(0, 900, 899), 3, 300);
        lies(flawed(0, 2000, 300, 601, 902), 3, 300, 0, 301, 602);
        lies(flawed(100, 2000, 0), 1, 300, 100);
        lies(flawed(100, 2000, 99), 1, 300, 100);
        lies(flawed(100, 2000, 100), 1, 300, 200);
        lies(flawed(100, 2000, 299), 1, 300, 300);
        lies(flawed(100, 2000, 300), 1, 300, 0);
        lies(flawed(100, 2000, 550), 2, 250, 0, 300);
        lies(flawed(100, 2000, 549), 2, 250, 0, 600);
        lies(flawed(100, 2000, 250), 2, 250, 0, 300);
        lies(flawed(100, 2000, 299), 2, 250, 0, 300);
        Edges.says(13, "where a DROP may lie: one FLAW at each place, two DROPS of a HALF pattern");
        for (int flaw = 0; flaw < 1500; flaw++) {
            House x = House.patterned(200, true, 1500);
            x.flaw(0, flaw);
            int first = firstPlace(0, 0, flaw);
            int second = firstPlace(first + 300, 100, flaw);
            lies(x, 2, 300, first, second);
        }
    }

    /** The first place at which a DROP of 300 lies, with a REPEAT of 200 and one FLAW, place by place. */
    private static int firstPlace(int from, int phase, int flaw) {
        int s = from;
        while ((s - phase) % 200 != 0 || flaw >= s && flaw <= s + 299) {
            s++;
        }
        return s;
    }

    private static void fromUsed() {
        Edges.says(13, "the first one from USED on");
        House x = House.patterned(100, false, 60000);
        lies(x, 1, 250, 0);
        x.tell(House.win("b", 1, 300));
        due("cut(0)", x.cut(0), 1);
        due("drop(0, 0, 0, 1) behind a USED of 250", x.drop(0, 0, 0, 1), 300);
        x.tell(House.win("c", 1, 300));
        x.cut(0);
        due("drop(0, 0, 0, 1) behind a USED of 600", x.drop(0, 0, 0, 1), 600);
        Edges.says(13, "FLAWS: at USED, and behind a DROP that lies there");
        House y = House.plain(1000);
        lies(y, 1, 300, 0);
        y.flaw(0, 300);
        y.flaw(0, 601);
        y.tell(House.win("b", 1, 300));
        y.cut(0);
        due("drop(0, 0, 0, 1)", y.drop(0, 0, 0, 1), 301);
        due("boltOf(0, 2)", y.boltOf(0, 2), 601);
        y.tell(House.win("c", 1, 398));
        due("cut(0) of 398 from 602 on", y.cut(0), 1);
        due("boltOf(0, 2)", y.boltOf(0, 2), 1000);
    }

    private static void dropNumbers() {
        Edges.says(13, "NONE if it LACKS, and for others.");
        House x = States.busy();
        due("drop(1, 0, 0, 2)", x.drop(1, 0, 0, 2), 400);
        due("drop(1, 1, 2, 2)", x.drop(1, 1, 2, 2), 445);
        for (int what = 0; what <= 2; what++) {
            int asked = what;
            States.BUSY.by("drop(0, 0, 0, " + what + ") that LACKS", y -> y.drop(0, 0, 0, asked), NONE);
            States.BUSY.by("drop(2, 0, 3, " + what + ") that LACKS", y -> y.drop(2, 0, 3, asked), NONE);
            States.BUSY.by("drop(2, 1, 0, " + what + ") without a lining", y -> y.drop(2, 1, 0, asked), NONE);
            States.BUSY.by("drop(1, 0, 3, " + what + ") behind its PANELS", y -> y.drop(1, 0, 3, asked), NONE);
            States.NEW.by("drop(0, 0, 0, " + what + ")", y -> y.drop(0, 0, 0, asked), NONE);
        }
        for (int n : Edges.outside(0, 3)) {
            States.BUSY.by("drop(" + n + ", 0, 0, 0)", y -> y.drop(n, 0, 0, 0), NONE);
        }
        for (int n : Edges.outside(0, 1)) {
            States.BUSY.by("drop(1, " + n + ", 0, 0)", y -> y.drop(1, n, 0, 0), NONE);
        }
        for (int n : Edges.outside(0, 7)) {
            States.BUSY.by("drop(1, 0, " + n + ", 0)", y -> y.drop(1, 0, n, 0), NONE);
            States.BUSY.by("drop(1, 1, " + n + ", 0)", y -> y.drop(1, 1, n, 0), NONE);
        }
        for (int n : Edges.outside(0, 2)) {
            States.BUSY.by("drop(1, 0, 0, " + n + ")", y -> y.drop(1, 0, 0, n), NONE);
        }
        Edges.says(13, "2 its length as it was cut");
        House y = House.plain(5000);
        y.tell(House.win("a", 2, 300));
        y.cut(0);
        y.tell(House.win("a", 3, 250));
        y.cut(0);
        due("drop(0, 0, 1, 2)", y.drop(0, 0, 1, 2), 300);
        due("drop(0, 0, 2, 2)", y.drop(0, 0, 2, 2), 250);
        due("drop(0, 0, 2, 1)", y.drop(0, 0, 2, 1), 600);
    }

    // ---- promise 14

    /** A house with one window, its drops cut at a length of 300, from bolt 0. */
    private static House cutWindow(int panels) {
        House x = House.plain(3000, 60000);
        x.cloth(300, 0, false, 0);
        x.bolt(1, 60000);
        x.tell(House.win("a", panels, 300));
        due("cut(0)", x.cut(0), panels);
        return x;
    }

    private static void stays(House x, String text, int lost, int lacking) {
        int before = x.lost();
        x.tell(text);
        due("lost() behind '" + text + "'", x.lost() - before, lost);
        due("layer(0, 0, 2) behind '" + text + "'", x.layer(0, 0, 2), lacking);
    }

    private static void longer() {
        Edges.says(14, "a DROP stays if the LAYER is not longer than it was cut");
        stays(cutWindow(3), House.win("a", 3, 299), 0, 0);
        stays(cutWindow(3), House.win("a", 3, 300), 0, 0);
        stays(cutWindow(3), House.win("a", 3, 301), 3, 3);
        stays(cutWindow(3), House.win("a", 3, 200), 0, 0);
        stays(cutWindow(3), "window a:wide 420 drop 300 face 0 hems 0;", 0, 0);
        stays(cutWindow(3), "window a:wide 420 drop 300 face 0 hems 1;", 3, 3);
        stays(cutWindow(3), "window a:wide 840 drop 300 face 0 hems 0 full 100;", 0, 0);
        Edges.says(14, "as it was cut: not as the order before had it");
        House x = cutWindow(2);
        stays(x, House.win("a", 2, 250), 0, 0);
        stays(x, House.win("a", 2, 300), 0, 0);
        stays(x, House.win("a", 2, 301), 2, 2);
        stays(x, House.win("a", 2, 300), 0, 2);
        Edges.says(14, "as it was cut: each DROP by itself");
        House y = cutWindow(1);
        y.tell(House.win("a", 3, 250));
        due("cut(0)", y.cut(0), 2);
        stays(y, House.win("a", 3, 275), 2, 2);
        due("drop(0, 0, 0, 1)", y.drop(0, 0, 0, 1), 0);
        Edges.says(14, "LONG, with what SHRINK makes of it");
        House z = new House();
        z.cloth(300, 0, false, 200);
        z.bolt(0, 5000);
        z.tell("window a:wide 140 drop 201 hems 0 face 0;");
        due("cut(0)", z.cut(0), 1);
        due("drop(0, 0, 0, 2)", z.drop(0, 0, 0, 2), 252);
        stays(z, "window a:wide 140 drop 200 hems 1 face 0;", 0, 0);
        stays(z, "window a:wide 140 drop 202 hems 0 face 0;", 1, 1);
    }

    private static void panelsClothsAndNames() {
        Edges.says(14, "has that PANEL");
        for (int panels = 1; panels <= 8; panels++) {
            House x = cutWindow(4);
            stays(x, House.win("a", panels, 300), Math.max(0, 4 - panels), Math.max(0, panels - 4));
            stays(x, House.win("a", 8, 300), 0, 8 - Math.min(4, panels));
        }
        Edges.says(14, "whose LAYER is of that CLOTH");
        House x = cutWindow(2);
        stays(x, House.with(House.win("a", 2, 300), "face 1"), 2, 2);
        stays(x, House.win("a", 2, 300), 0, 2);
        stays(cutWindow(2), House.with(House.win("a", 2, 300), "face 0 lining 0"), 0, 0);
        stays(cutWindow(2), House.with(House.win("a", 2, 300), "face 1 lining 0"), 2, 2);
        House y = House.plain(3000);
        y.cloth(300, 0, false, 0);
        y.bolt(1, 3000);
        y.tell(House.with(House.win("a", 2, 300), "face 0 lining 1"));
        y.cut(0);
        y.cut(1);
        stays(y, House.with(House.win("a", 2, 300), "face 0 lining 0"), 2, 0);
        due("layer(0, 1, 2)", y.layer(0, 1, 2), 2);
        stays(y, House.win("a", 2, 300), 0, 0);
        Edges.says(14, "if there is a WINDOW of that NAME");
        stays(cutWindow(2), House.win("A", 2, 300), 2, 2);
        stays(cutWindow(2), House.win("aa", 2, 300), 2, 2);
        stays(cutWindow(2), House.win("b", 2, 300) + House.win("a", 2, 300), 0, 2);
        stays(cutWindow(2), "", 2, NONE);
        stays(cutWindow(2), " ", 2, NONE);
        House z = House.plain(3000);
        z.tell(House.win("abcdefgh", 1, 300) + House.win("abcdefgi", 1, 300));
        due("cut(0)", z.cut(0), 2);
        stays(z, House.win("abcdefgi", 1, 300), 1, 0);
        due("drop(0, 0, 0, 1)", z.drop(0, 0, 0, 1), 300);
    }

    private static void readWell() {
        Edges.says(14, "AN ORDER ANEW (each text that is read well)");
        for (String text : new String[] {"?", "window", House.win("b", 1, 300) + ":", "window b:;"}) {
            stays(cutWindow(2), text, 0, 0);
        }
        Edges.says(14, "How many DROPS were LOST up to now: those that LACK are none of them");
        House x = House.plain(700);
        due("lost()", x.lost(), 0);
        x.tell(House.win("a", 8, 300));
        stays(x, "", 0, NONE);
        x.tell(House.win("a", 2, 300));
        x.cut(0);
        x.tell(House.win("a", 8, 300));
        stays(x, "", 2, NONE);
        due("lost()", x.lost(), 2);
        x.order();
        due("lost() if there is nothing more", x.lost(), 2);
        States.all("lost() twice", y -> y.lost() - y.lost(), 0);
    }

    private static void withTheBolt() {
        Edges.says(14, "LOST (with them what they had of the BOLT)");
        House x = cutWindow(3);
        stays(x, "", 3, NONE);
        due("boltOf(0, 2)", x.boltOf(0, 2), 900);
        stays(x, House.win("a", 3, 300), 0, 3);
        due("cut(0)", x.cut(0), 3);
        Edges.drops(x, 0, 0, 0, 900, 0, 1200, 0, 1500);
        House whole = House.plain(300);
        whole.tell(House.win("a", 1, 300));
        whole.cut(0);
        whole.tell("");
        whole.tell(House.win("a", 1, 300));
        due("plan(0)", whole.plan(0), NONE);
    }

    /** A split window with panels 0 and 1 of bolt 1 and panel 2 of bolt 0. */
    private static House twoBolts() {
        House x = House.plain(300, 700);
        x.tell(House.split("a", 3, 300));
        due("cut(0)", x.cut(0), 3);
        Edges.drops(x, 0, 0, 1, 0, 1, 300, 0, 0);
        return x;
    }

    private static void oneBolt() {
        Edges.says(14, "Of a WINDOW that isn't split now: only those of the lowest such BOLT stay");
        House x = twoBolts();
        stays(x, House.win("a", 3, 300), 2, 2);
        Edges.drops(x, 0, 0, NONE, NONE, NONE, NONE, 0, 0);
        Edges.says(14, "split now: all stay");
        x = twoBolts();
        stays(x, House.split("a", 3, 300), 0, 0);
        Edges.drops(x, 0, 0, 1, 0, 1, 300, 0, 0);
        Edges.says(14, "if those that would stay are of more than one BOLT: a lower one whose DROPS go doesn't count");
        x = twoBolts();
        stays(x, House.win("a", 2, 300), 1, 0);
        Edges.drops(x, 0, 0, 1, 0, 1, 300);
        Edges.says(14, "the lowest such BOLT: of those that are long enough still");
        House shortFirst = House.plain(250, 700);
        shortFirst.tell(House.split("a", 1, 250));
        shortFirst.cut(0);
        due("drop(0, 0, 0, 0)", shortFirst.drop(0, 0, 0, 0), 0);
        shortFirst.tell(House.split("a", 2, 240));
        shortFirst.cut(0);
        due("drop(0, 0, 1, 0)", shortFirst.drop(0, 0, 1, 0), 1);
        stays(shortFirst, House.win("a", 2, 245), 1, 1);
        Edges.drops(shortFirst, 0, 0, 0, 0, NONE, NONE);
        House longLast = longerInTheHigherBolt();
        stays(longLast, House.win("a", 2, 280), 1, 1);
        Edges.drops(longLast, 0, 0, NONE, NONE, 1, 0);
        longLast = longerInTheHigherBolt();
        stays(longLast, House.win("a", 2, 240), 1, 1);
        Edges.drops(longLast, 0, 0, 0, 0, NONE, NONE);
        Edges.says(14, "those of a LAYER: face and lining each by itself");
        House two = House.plain(600, 600);
        two.tell(House.with(House.win("a", 2, 300), "face 0 lining 0"));
        due("cut(0)", two.cut(0), 4);
        due("drop(0, 0, 0, 0)", two.drop(0, 0, 0, 0), 1);
        due("drop(0, 1, 0, 0)", two.drop(0, 1, 0, 0), 0);
        stays(two, House.with(House.win("a", 2, 300), "face 0 lining 0"), 0, 0);
        due("layer(0, 1, 2)", two.layer(0, 1, 2), 0);
    }

    /** A split window with panel 0 of 250 from bolt 0, and panel 1 of 300 from bolt 1. */
    private static House longerInTheHigherBolt() {
        House x = House.plain(250, 300, 300);
        x.tell(House.split("a", 2, 300));
        due("cut(0)", x.cut(0), 2);
        Edges.drops(x, 0, 0, 2, 0, 1, 0);
        x.tell(House.win("a", 2, 300));
        Edges.drops(x, 0, 0, NONE, NONE, 1, 0);
        x.tell(House.split("a", 2, 250));
        due("cut(0)", x.cut(0), 1);
        Edges.drops(x, 0, 0, 0, 0, 1, 0);
        return x;
    }

    private static void many() {
        Edges.says(14, "How many DROPS were LOST up to now: as many as can be");
        House x = new House();
        StringBuilder text = new StringBuilder();
        for (int c = 0; c < 4; c++) {
            x.cloth(300, 0, false, 0);
            x.bolt(c, 60000);
        }
        for (int w = 0; w < 12; w++) {
            text.append("window ").append((char) ('a' + w)).append(":wide 1120drop 200hems 0face ").append(w % 2)
                .append("lining ").append(2 + w % 2).append(';');
        }
        for (int round = 1; round <= 2; round++) {
            due("order()", x.tell(text.toString()), 12);
            for (int c = 0; c < 4; c++) {
                due("cut(" + c + ")", x.cut(c), 48);
            }
            due("lost()", x.lost(), 192 * (round - 1));
            due("order()", x.order(), 0);
            due("lost()", x.lost(), 192 * round);
        }
    }

    public static void main(String[] args) {
        repeats();
        lengths();
        flaws();
        fromUsed();
        dropNumbers();
        longer();
        panelsClothsAndNames();
        readWell();
        withTheBolt();
        oneBolt();
        many();
        Edges.finish(13, 14);
    }
}
