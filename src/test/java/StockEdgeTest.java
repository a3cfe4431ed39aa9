/** The edges of promises 1 to 5: a new object, cloths, bolts and flaws. */
public final class StockEdgeTest {
    private static final int NONE = Edges.NONE;
    private static final int LEAST = Edges.LEAST;
    private static final int MOST = Edges.MOST;

    private static void due(String call, int got, int want) {
        Edges.due(call, got, want);
    }

    // ---- promise 1

    private static void newObject() {
        Edges.says(1, "No CLOTHS, BOLTS, WINDOWS.");
        House x = new House();
        for (int what = 0; what <= 3; what++) {
            due("about(" + what + ")", x.about(what), 0);
        }
        due("lost()", x.lost(), 0);
        due("benches()", x.benches(), 0);
        due("fault(0)", x.fault(0), NONE);
        due("fault(1)", x.fault(1), NONE);
        due("end(0)", x.end(0), 0);
        for (int n : Edges.row(0, 5, 11)) {
            nothingIs(n, x);
        }
        due("order()", x.order(), 0);
        Edges.says(1, "No WINDOWS: a text finds nothing that could be LOST, and no CLOTH for a face");
        due("lost()", x.lost(), 0);
        Edges.fault(x, "window a:face 0", 3, 14);
    }

    private static void nothingIs(int n, House x) {
        for (int what = 0; what <= 10; what++) {
            due("boltOf(" + n + ", " + what + ")", x.boltOf(n, what), NONE);
            due("window(" + n + ", " + what + ")", x.window(n, what), NONE);
        }
        for (int what = 0; what <= 2; what++) {
            due("layer(" + n + ", 0, " + what + ")", x.layer(n, 0, what), NONE);
            due("drop(" + n + ", 0, 0, " + what + ")", x.drop(n, 0, 0, what), NONE);
            due("bench(" + n + ", " + what + ")", x.bench(n, what), NONE);
        }
        due("pleat(" + n + ", 0, false)", x.pleat(n, 0, false), NONE);
        due("pleat(" + n + ", 0, true)", x.pleat(n, 0, true), NONE);
        due("plan(" + n + ")", x.plan(n), NONE);
        due("bound(" + n + ")", x.bound(n), NONE);
        due("cut(" + n + ")", x.cut(n), NONE);
        due("lacks(" + n + ")", x.lacks(n), NONE);
    }

    private static void twoObjects() {
        Edges.says(1, "A new object: beside others that have much");
        House full = States.full();
        House busy = States.busy();
        House x = new House();
        for (int what = 0; what <= 3; what++) {
            due("about(" + what + ")", x.about(what), 0);
        }
        due("lost()", x.lost(), 0);
        due("fault(0)", x.fault(0), NONE);
        due("cloth", x.cloth(1020, 0, false, 0), 0);
        due("bolt", x.bolt(0, 777), 0);
        due("flaw", x.flaw(0, 5), 1);
        due("order()", x.tell("window q:wide 100 drop 200 face 0;"), 1);
        due("cut(0)", x.cut(0), 1);
        due("the other's about(2)", full.about(2), 12);
        due("the other's boltOf(0, 1)", full.boltOf(0, 1), 1000);
        due("the other's boltOf(0, 2)", full.boltOf(0, 2), 0);
        due("the other's about(3)", full.about(3), 600);
        due("the other's about(2)", busy.about(2), 4);
    }

    // ---- promise 2

    private static void taken(int width, int repeat, boolean half, int shrink) {
        House x = new House();
        String call = "cloth(" + width + ", " + repeat + ", " + half + ", " + shrink + ")";
        due(call, x.cloth(width, repeat, half, shrink), 0);
        due("about(0) behind " + call, x.about(0), 1);
    }

    private static void refusedCloth(int width, int repeat, boolean half, int shrink) {
        String call = "cloth(" + width + ", " + repeat + ", " + half + ", " + shrink + ")";
        States.all(call, x -> x.cloth(width, repeat, half, shrink), NONE);
    }

    private static void clothRanges() {
        Edges.says(2, "WIDTH (300 .. 2000); NONE for others");
        for (int width : Edges.row(300, 301, 1999, 2000)) {
            taken(width, 0, false, 0);
        }
        for (int width : Edges.outside(300, 2000)) {
            refusedCloth(width, 0, false, 0);
        }
        refusedCloth(0, 0, false, 0);
        refusedCloth(-300, 0, false, 0);
        Edges.says(2, "REPEAT of its pattern (0 .. 800; 0: none); NONE for others");
        for (int repeat : Edges.row(0, 1, 2, 799, 800)) {
            taken(300, repeat, false, 0);
        }
        for (int repeat : Edges.outside(0, 800)) {
            refusedCloth(300, repeat, false, 0);
        }
        Edges.says(2, "SHRINK (0 .. 200 thousandths); NONE for others");
        for (int shrink : Edges.row(0, 1, 199, 200)) {
            taken(300, 0, false, shrink);
        }
        for (int shrink : Edges.outside(0, 200)) {
            refusedCloth(300, 0, false, shrink);
        }
        Edges.says(2, "HALF (then it is even and above 0); NONE for others");
        for (int repeat : Edges.row(2, 4, 798, 800)) {
            taken(300, repeat, true, 0);
        }
        for (int repeat : Edges.row(0, 1, 3, 799, 801, 802, -1, -2, LEAST, LEAST + 1, MOST - 1, MOST)) {
            refusedCloth(300, repeat, true, 0);
        }
        Edges.says(2, "A CLOTH: the greatest of all, and the least");
        taken(2000, 800, true, 200);
        taken(300, 2, true, 0);
        Edges.says(2, "NONE for others, of several at once");
        refusedCloth(LEAST, LEAST, true, LEAST);
        refusedCloth(MOST, MOST, true, MOST);
        refusedCloth(299, 801, true, 201);
    }

    private static void clothNumbers() {
        Edges.says(2, "A CLOTH: its number. NONE, if there are 6.");
        House x = new House();
        for (int c = 0; c < 6; c++) {
            due("about(0)", x.about(0), c);
            due("a refused one takes no number", x.cloth(299, 0, false, 0), NONE);
            due("cloth " + c, x.cloth(300 + c, 0, false, c), c);
        }
        due("about(0)", x.about(0), 6);
        due("the 7th", x.cloth(300, 0, false, 0), NONE);
        due("a like one", x.cloth(305, 0, false, 5), NONE);
        due("about(0)", x.about(0), 6);
        States.FULL.by("the 7th cloth", y -> y.cloth(300, 0, false, 0), NONE);
        States.FULL.by("the 7th cloth", y -> y.cloth(2000, 800, true, 200), NONE);
        Edges.says(2, "A CLOTH: like ones are two");
        House like = new House();
        due("cloth", like.cloth(300, 0, false, 0), 0);
        due("cloth", like.cloth(300, 0, false, 0), 1);
        like.bolt(1, 1000);
        like.tell(House.win("a", 1, 300));
        due("plan(0), the bolt being of the other", like.plan(0), NONE);
    }

    /** What a cloth was told it has. */
    private static void clothHolds() {
        Edges.says(2, "A CLOTH: WIDTH at its ends");
        House x = new House();
        x.cloth(300, 0, false, 0);
        x.cloth(2000, 0, false, 0);
        x.tell("window a:wide 280 drop 200 face 0 full 100;window b:wide 281 drop 200 face 0 full 100;"
            + "window c:wide 1980 drop 200 face 1 full 100;window d:wide 1981 drop 200 face 1 full 100;");
        for (int w = 0; w < 4; w++) {
            due("layer(" + w + ", 0, 0)", x.layer(w, 0, 0), w % 2 + 1);
        }
        Edges.says(2, "A CLOTH: SHRINK at its ends");
        x = new House();
        x.cloth(300, 0, false, 0);
        x.cloth(300, 0, false, 200);
        x.tell(House.with(House.win("a", 1, 400), "face 0 lining 1"));
        due("layer(0, 0, 1)", x.layer(0, 0, 1), 400);
        due("layer(0, 1, 1)", x.layer(0, 1, 1), 500);
        Edges.says(2, "A CLOTH: REPEAT at its ends");
        placesOf(0, false, 201, 0, 201, 402);
        placesOf(1, false, 201, 0, 201, 402);
        placesOf(2, false, 201, 0, 202, 404);
        placesOf(799, false, 201, 0, 799, 1598);
        placesOf(800, false, 201, 0, 800, 1600);
        Edges.says(2, "A CLOTH: HALF with the least and the greatest REPEAT");
        placesOf(2, true, 200, 0, 201, 402);
        placesOf(800, true, 201, 0, 400, 800);
    }

    private static void placesOf(int repeat, boolean half, int length, int... places) {
        House x = House.patterned(repeat, half, 60000);
        x.tell(House.win("a", places.length, length));
        due("cut(0)", x.cut(0), places.length);
        for (int p = 0; p < places.length; p++) {
            due("drop(0, 0, " + p + ", 1) with REPEAT " + repeat, x.drop(0, 0, p, 1), places[p]);
        }
    }

    // ---- promise 3

    private static void refusedBolt(int cloth, int length) {
        States.all("bolt(" + cloth + ", " + length + ")", x -> x.bolt(cloth, length), NONE);
    }

    private static void bolts() {
        Edges.says(3, "LENGTH (100 .. 60000); NONE for others");
        for (int length : Edges.row(100, 101, 59999, 60000)) {
            House x = House.plain();
            due("bolt(0, " + length + ")", x.bolt(0, length), 0);
            due("boltOf(0, 1)", x.boltOf(0, 1), length);
        }
        for (int length : Edges.outside(100, 60000)) {
            refusedBolt(0, length);
        }
        refusedBolt(0, 0);
        refusedBolt(0, -100);
        Edges.says(3, "of a CLOTH; NONE for others");
        for (int cloth : Edges.outside(0, 5)) {
            refusedBolt(cloth, 1000);
        }
        States.NEW.by("bolt(0, 1000)", x -> x.bolt(0, 1000), NONE);
        States.BUSY.by("bolt(3, 1000)", x -> x.bolt(3, 1000), NONE);
        due("bolt of the last cloth", States.busy().bolt(2, 1000), 5);
        House six = new House();
        for (int c = 0; c < 6; c++) {
            due("bolt of a cloth that is not there yet", six.bolt(c, 100), NONE);
            six.cloth(300, 0, false, 0);
            due("bolt(" + c + ", 100)", six.bolt(c, 100), c);
            due("boltOf(" + c + ", 0)", six.boltOf(c, 0), c);
        }
    }

    private static void boltNumbers() {
        Edges.says(3, "A BOLT: its number. NONE, if there are 12.");
        House x = House.plain();
        x.cloth(300, 0, false, 0);
        for (int b = 0; b < 12; b++) {
            due("about(1)", x.about(1), b);
            due("a refused one takes no number", x.bolt(0, 99), NONE);
            due("bolt " + b, x.bolt(b % 2, 100 + b), b);
        }
        due("about(1)", x.about(1), 12);
        due("the 13th", x.bolt(0, 100), NONE);
        due("the 13th, of the other cloth", x.bolt(1, 100), NONE);
        due("about(1)", x.about(1), 12);
        for (int b = 0; b < 12; b++) {
            due("boltOf(" + b + ", 0)", x.boltOf(b, 0), b % 2);
            due("boltOf(" + b + ", 1)", x.boltOf(b, 1), 100 + b);
        }
        States.FULL.by("the 13th bolt", y -> y.bolt(5, 60000), NONE);
        States.FULL.by("the 13th bolt", y -> y.bolt(0, 100), NONE);
    }

    // ---- promise 4

    private static void refusedFlaw(Unchanged state, int bolt, int place) {
        state.by("flaw(" + bolt + ", " + place + ")", x -> x.flaw(bolt, place), NONE);
    }

    private static void flawPlaces() {
        Edges.says(4, "places 0 .. LENGTH - 1; NONE: others");
        for (int length : Edges.row(100, 5000, 60000)) {
            House x = House.plain(length);
            due("flaw(0, LENGTH)", x.flaw(0, length), NONE);
            due("flaw(0, -1)", x.flaw(0, -1), NONE);
            due("flaw(0, LENGTH - 1)", x.flaw(0, length - 1), 1);
            due("flaw(0, 0)", x.flaw(0, 0), 2);
            Unchanged state = new Unchanged(() -> House.plain(length));
            for (int place : Edges.outside(0, length - 1)) {
                refusedFlaw(state, 0, place);
            }
        }
        Edges.says(4, "A FLAW of a BOLT; NONE: others");
        for (int bolt : Edges.outside(0, 11)) {
            refusedFlaw(States.NEW, bolt, 500);
            refusedFlaw(States.BUSY, bolt, 500);
            refusedFlaw(States.FULL, bolt, 500);
        }
        refusedFlaw(States.NEW, 0, 0);
        refusedFlaw(States.BUSY, 5, 500);
    }

    private static void fourFlaws() {
        Edges.says(4, "how many the BOLT has. NONE: it has 4");
        House x = House.plain(1000, 1000);
        for (int f = 0; f < 4; f++) {
            due("boltOf(0, 3)", x.boltOf(0, 3), f);
            due("flaw(0, " + (500 - f) + ")", x.flaw(0, 500 - f), f + 1);
        }
        due("the 5th", x.flaw(0, 600), NONE);
        due("boltOf(0, 3)", x.boltOf(0, 3), 4);
        due("boltOf(0, 14)", x.boltOf(0, 14), NONE);
        due("one of the other bolt", x.flaw(1, 600), 1);
        for (int b = 0; b < 12; b++) {
            refusedFlaw(States.FULL, b, 999);
        }
        Edges.says(4, "NONE: the place is a FLAW");
        x = House.plain(1000, 1000);
        for (int f = 0; f < 3; f++) {
            due("flaw(0, " + 100 * f + ")", x.flaw(0, 100 * f), f + 1);
            for (int again = 0; again <= f; again++) {
                due("flaw(0, " + 100 * again + ") again", x.flaw(0, 100 * again), NONE);
            }
        }
        due("boltOf(0, 3)", x.boltOf(0, 3), 3);
        due("a neighbour", x.flaw(0, 199), 4);
        due("the same place of another bolt", x.flaw(1, 100), 1);
        due("a neighbour", x.flaw(1, 101), 2);
        refusedFlaw(States.BUSY, 2, 4000);
        refusedFlaw(States.BUSY, 2, 50);
    }

    private static House cutTo300() {
        House x = House.plain(1000);
        x.tell(House.win("a", 1, 300));
        x.cut(0);
        return x;
    }

    private static void flawAndUsed() {
        Edges.says(4, "NONE: the place is ahead of USED");
        Unchanged state = new Unchanged(StockEdgeTest::cutTo300);
        for (int place : Edges.row(0, 1, 150, 298, 299)) {
            refusedFlaw(state, 0, place);
        }
        for (int place : Edges.row(300, 301, 999)) {
            due("flaw(0, " + place + ")", cutTo300().flaw(0, place), 1);
        }
        Edges.says(4, "ahead of USED: of a drop that is LOST too");
        House x = cutTo300();
        x.tell("");
        due("lost()", x.lost(), 1);
        due("flaw(0, 299)", x.flaw(0, 299), NONE);
        due("flaw(0, 300)", x.flaw(0, 300), 1);
        Edges.says(4, "ahead of USED: the whole BOLT");
        x = House.plain(300);
        x.tell(House.win("a", 1, 300));
        x.cut(0);
        due("boltOf(0, 2)", x.boltOf(0, 2), 300);
        due("flaw(0, 299)", x.flaw(0, 299), NONE);
        due("flaw(0, 300)", x.flaw(0, 300), NONE);
        Edges.says(4, "it has 4: those ahead of USED are among them");
        x = House.plain(1000);
        for (int f = 0; f < 4; f++) {
            x.flaw(0, 10 + f);
        }
        x.tell(House.win("a", 1, 300));
        x.cut(0);
        due("boltOf(0, 2)", x.boltOf(0, 2), 314);
        due("flaw(0, 900)", x.flaw(0, 900), NONE);
        due("boltOf(0, 3)", x.boltOf(0, 3), 4);
        due("boltOf(0, 10)", x.boltOf(0, 10), 10);
    }

    // ---- promise 5

    private static void boltOf() {
        Edges.says(5, "0 CLOTH, 1 LENGTH, 2 USED, 3 FLAWS, 10 + i: FLAW i. NONE for others.");
        House x = States.busy();
        due("boltOf(2, 0)", x.boltOf(2, 0), 1);
        due("boltOf(2, 1)", x.boltOf(2, 1), 12000);
        due("boltOf(2, 3)", x.boltOf(2, 3), 2);
        for (int what : Edges.row(LEAST, LEAST + 10, LEAST + 3, -11, -10, -4, -1, 4, 5, 6, 7, 8, 9, 12, 13, 14, 15,
            MOST - 1, MOST)) {
            States.BUSY.by("boltOf(2, " + what + ")", y -> y.boltOf(2, what), NONE);
        }
        for (int bolt : Edges.row(-1, 5, 11, 12, LEAST, MOST)) {
            for (int what : Edges.row(0, 1, 2, 3, 10)) {
                due("boltOf(" + bolt + ", " + what + ")", x.boltOf(bolt, what), NONE);
            }
        }
        House full = States.full();
        due("boltOf(11, 0)", full.boltOf(11, 0), 5);
        due("boltOf(11, 1)", full.boltOf(11, 1), 1011);
        due("boltOf(12, 0)", full.boltOf(12, 0), NONE);
        Edges.says(5, "FLAW i (as they were told)");
        House told = House.plain(1000);
        int[] places = {700, 0, 999, 50};
        for (int f = 0; f < 4; f++) {
            due("boltOf(0, " + (10 + f) + ") ahead of it", told.boltOf(0, 10 + f), NONE);
            told.flaw(0, places[f]);
            for (int i = 0; i <= f; i++) {
                due("boltOf(0, " + (10 + i) + ")", told.boltOf(0, 10 + i), places[i]);
            }
        }
        due("boltOf(0, 14)", told.boltOf(0, 14), NONE);
        due("boltOf(0, 9)", told.boltOf(0, 9), NONE);
        Edges.says(5, "USED: what lies ahead of it is gone (0 at first)");
        House used = House.plain(900, 300);
        due("boltOf(0, 2)", used.boltOf(0, 2), 0);
        used.tell(House.win("a", 3, 300));
        due("boltOf(0, 2) without a cut", used.boltOf(0, 2), 0);
        used.cut(0);
        due("boltOf(0, 2)", used.boltOf(0, 2), 900);
        due("boltOf(1, 2)", used.boltOf(1, 2), 0);
    }

    public static void main(String[] args) {
        newObject();
        twoObjects();
        clothRanges();
        clothNumbers();
        clothHolds();
        bolts();
        boltNumbers();
        flawPlaces();
        fourFlaws();
        flawAndUsed();
        boltOf();
        Edges.finish(1, 5);
    }
}
