/** Houses that calls are refused by: a new one, one amid its work, and one that has all it can have. */
final class States {
    static final Unchanged NEW = new Unchanged(House::new);
    static final Unchanged BUSY = new Unchanged(States::busy);
    static final Unchanged FULL = new Unchanged(States::full);

    private States() { }

    /** All three of them. */
    static void all(String call, java.util.function.ToIntFunction<House> asked, int answer) {
        NEW.by(call, asked, answer);
        BUSY.by(call, asked, answer);
        FULL.by(call, asked, answer);
    }

    /**
     * Cloths 0 .. 2, bolts 0 .. 4, windows 0 .. 3; drops that are cut, that lack and that were lost;
     * a fault, and a text on the tape.
     */
    static House busy() {
        House x = House.plain(2000, 3000);
        x.cloth(300, 100, true, 100);
        x.cloth(1020, 0, false, 0);
        x.bolt(1, 12000);
        x.bolt(1, 900);
        x.bolt(0, 700);
        x.flaw(0, 350);
        x.flaw(2, 4000);
        x.flaw(2, 50);
        String b = House.with(House.split("b", 3, 400), "face 0 lining 1");
        x.tell(House.win("a", 3, 300) + b + House.win("gone", 2, 500));
        x.cut(0);
        x.cut(1);
        x.tell(House.with(House.win("c", 2, 250), "face 1") + b + House.win("a", 4, 300)
            + "window bay:wide 300 400 drop 900 face 2 lining 1 full 150;");
        x.tell("window a:wide 100 drop 199;");
        return x.put(House.win("a", 2, 300) + House.win("d", 1, 300));
    }

    /** 6 cloths, 12 bolts with 4 flaws each, 12 windows, 600 bytes. */
    static House full() {
        House x = new House();
        for (int c = 0; c < 6; c++) {
            x.cloth(300, 0, false, 0);
        }
        for (int b = 0; b < 12; b++) {
            x.bolt(b % 6, 1000 + b);
            for (int f = 0; f < 4; f++) {
                x.flaw(b, 10 * f);
            }
        }
        x.tell(twelve());
        return x.put(filled(twelve(), 600));
    }

    static String twelve() {
        StringBuilder out = new StringBuilder();
        for (int w = 0; w < 12; w++) {
            out.append("window ").append((char) ('a' + w)).append(":wide 140drop 200face ").append(w % 6).append(';');
        }
        return out.toString();
    }

    /** With blanks behind it, of that length. */
    static String filled(String text, int length) {
        return text + " ".repeat(length - text.length());
    }
}
