import java.nio.charset.StandardCharsets;
import java.util.ArrayList;
import java.util.Arrays;
import java.util.List;

/** The edges of promises 6 to 9: the tape, the language and its faults. */
public final class TextEdgeTest {
    private static final int NONE = Edges.NONE;
    private static final int BLANKS = 0x20202020;
    private static final String GOOD = "window a:wide 100 drop 200 face 0;";
    private static final String[] WORDS = {"window", "wide", "drop", "face", "lining", "full", "hems", "split"};
    /** The parts that have a NUMBER, with its least and its greatest (one cloth being there). */
    private static final String[] NUMBERED = {"wide", "drop", "face", "lining", "full", "hems"};
    private static final int[] LEAST_OF = {100, 200, 0, 0, 100, 0};
    private static final int[] MOST_OF = {5000, 5000, 0, 0, 400, 1000};

    private static void due(String call, int got, int want) {
        Edges.due(call, got, want);
    }

    /** The fault of the first text of a house with one cloth. */
    private static void fresh(String text, int kind, int place) {
        Edges.fault(House.plain(), text, kind, place);
    }

    private static int blanks(House x) {
        return x.feed(BLANKS, BLANKS, BLANKS, BLANKS, BLANKS);
    }

    // ---- promise 6

    private static void twentyBytes() {
        Edges.says(6, "Twenty bytes come behind the tape, the highest of a first");
        for (int strange : Edges.row(0, 1, 0x3f, 0x7f, 0x80, 0xff)) {
            for (int k = 0; k < 40; k++) {
                House x = House.plain();
                byte[] bytes = new byte[40];
                Arrays.fill(bytes, (byte) 32);
                bytes[k] = (byte) strange;
                due("feed", x.feedTwenty(bytes, 0), 20);
                due("feed", x.feedTwenty(bytes, 20), 40);
                due("order()", x.order(), NONE);
                due("fault(1), byte " + k + " being " + strange, x.fault(1), k);
            }
        }
        for (int number : Edges.row(Edges.LEAST, Edges.LEAST + 1, -1, 0, 1, Edges.MOST)) {
            House ends = new House();
            due("feed of blanks and " + number, ends.feed(BLANKS, BLANKS, BLANKS, BLANKS, number), 20);
            due("feed of " + number, ends.feed(number, number, number, number, number), 40);
            due("order()", ends.order(), NONE);
            due("fault(1), its first byte being strange", ends.fault(1), 16);
        }
        House x = new House();
        x.cloth(2000, 0, false, 0);
        due("feed", x.feed(0x77696e64, 0x6f772061, 0x3a776964, 0x65203132, 0x33346472), 20);
        due("feed", x.feed(0x6f702035, 0x36376661, 0x63652030, 0x3b202020, 0x20202020), 40);
        due("order()", x.order(), 1);
        due("window(0, 0)", x.window(0, 0), 1234);
        due("window(0, 1)", x.window(0, 1), 567);
    }

    private static void fullTape() {
        Edges.says(6, "how many it has. NONE, and none come, if there would be more than 600.");
        House x = House.plain();
        for (int n = 20; n <= 600; n += 20) {
            due("feed", blanks(x), n);
            due("about(3)", x.about(3), n);
        }
        due("the 31st feed", x.feed(0, 0, 0, 0, 0), NONE);
        due("about(3)", x.about(3), 600);
        due("order(), none having come", x.order(), 0);
        for (int n = 0; n <= 600; n += n < 570 ? 57 : 1) {
            int length = n;
            Unchanged state = new Unchanged(() -> tapeOf(length));
            if (length > 580) {
                state.by("feed at " + length, y -> y.feed(0x3b3b3b3b, 0, 0, 0, -1), NONE);
            } else {
                due("feed at " + length, blanks(tapeOf(length)), length + 20);
            }
        }
        States.FULL.by("feed", y -> y.feed(0, 0, 0, 0, 0), NONE);
        Edges.says(6, "the tape takes on again where it is shorter, and where it is empty");
        x = tapeOf(600);
        due("feed", blanks(x), NONE);
        x.end(580);
        due("feed", blanks(x), 600);
        x.order();
        due("feed", blanks(x), 20);
    }

    /** A house with a text of that length, of whose bytes each counts, on its tape. */
    private static House tapeOf(int length) {
        House x = House.plain();
        String text = "window a:wide 1000 drop " + "0".repeat(Math.max(length - 27, 0)) + "200";
        return x.put(text.substring(0, length));
    }

    // ---- promise 7

    private static void end() {
        Edges.says(7, "The tape has its first n bytes alone: n.");
        String text = GOOD + GOOD.replace(" a:", " b:");
        for (int n = 0; n <= text.length(); n++) {
            House x = House.plain().put(text);
            due("end(" + n + ")", x.end(n), n);
            due("about(3)", x.about(3), n);
            String first = text.substring(0, n);
            boolean whole = first.isBlank() || first.endsWith(";");
            due("order() of '" + first + "'", x.order(), whole ? n / GOOD.length() : NONE);
            due("fault(1) of '" + first + "'", x.fault(1), whole ? NONE : n - lack(first));
        }
        Edges.says(7, "what was behind the first n bytes doesn't come back");
        House x = House.plain().put(GOOD);
        x.end(8);
        due("end(9)", x.end(9), NONE);
        due("feed", blanks(x), 28);
        due("order()", x.order(), NONE);
        due("fault(1)", x.fault(1), 28);
        Edges.says(7, "NONE, and nothing is done, if it has not so many, or n is below 0.");
        for (int n : Edges.row(Edges.LEAST, Edges.LEAST + 1, -600, -1, 601, 620, Edges.MOST - 1, Edges.MOST)) {
            States.all("end(" + n + ")", y -> y.end(n), NONE);
        }
        States.NEW.by("end(1)", y -> y.end(1), NONE);
        States.NEW.by("end(0)", y -> y.end(0), 0);
        States.FULL.by("end(600)", y -> y.end(600), 600);
        due("end(599)", States.full().end(599), 599);
        int has = States.busy().about(3);
        States.BUSY.by("end of one more than it has", y -> y.end(has + 1), NONE);
        States.BUSY.by("end of all that it has", y -> y.end(has), has);
    }

    /** How far from the end of a piece of a good text its fault is: at a NUMBER or word that is cut short. */
    private static int lack(String first) {
        String token = first.replaceAll("(?s)^.*?([a-z]*|[0-9]*)$", "$1");
        boolean cut = !token.isEmpty() && !List.of("window", "wide", "drop", "face", "a", "b", "100", "200", "0")
            .contains(token);
        return cut ? token.length() : 0;
    }

    // ---- promise 8

    private static void order() {
        Edges.says(8, "The tape (empty then) becomes the ORDER: how many WINDOWS.");
        House x = new House();
        due("order() of an empty tape", x.order(), 0);
        due("fault(0)", x.fault(0), 0);
        due("fault(1)", x.fault(1), NONE);
        due("order() of blanks", x.tell(" \n \n"), 0);
        due("about(3)", x.about(3), 0);
        due("order() of 600 blanks", x.tell("\n".repeat(600)), 0);
        x = House.plain();
        for (int n = 1; n <= 12; n++) {
            StringBuilder text = new StringBuilder();
            for (int w = 0; w < n; w++) {
                text.append(GOOD.replace(" a:", " " + (char) ('a' + w) + ":").replace("100", "" + (100 + w)));
            }
            due("order() of " + n, x.tell(text.toString()), n);
            due("about(3)", x.about(3), 0);
            due("about(2)", x.about(2), n);
            due("the last one's WIDE", x.window(n - 1, 0), 99 + n);
            due("one behind it", x.window(n, 0), NONE);
        }
        due("order() of the empty tape", x.order(), 0);
        due("about(2)", x.about(2), 0);
        due("window(0, 0)", x.window(0, 0), NONE);
        Edges.says(8, "TEXTS of up to 600 bytes");
        x = House.plain();
        due("order() of 600 bytes", x.tell(States.filled(GOOD, 600)), 1);
        due("order() of 600 bytes, the last a ;", x.tell(" ".repeat(600 - GOOD.length()) + GOOD), 1);
        Edges.fault(x, " ".repeat(599) + ";", 1, 599);
        Edges.fault(x, GOOD + " ".repeat(594 - GOOD.length()) + "window", 1, 600);
        due("order() of tokens and nothing else", x.tell("window a:wide100drop200face0;"), 1);
        due("order() of many blanks", x.tell("\n window  a \n:  wide\n100 drop  200\nface 0 ; \n"), 1);
        Edges.says(8, "WINDOWS are numbered as they come");
        x.tell(GOOD.replace(" a:", " z:").replace("100", "111") + GOOD);
        due("window(0, 0)", x.window(0, 0), 111);
        due("window(1, 0)", x.window(1, 0), 100);
    }

    private static void orderStays() {
        Edges.says(8, "NONE: it has a FAULT, the ORDER stays.");
        String[] faulty = {"?", GOOD + "?", GOOD + "window", GOOD + GOOD, "window a:wide 100 wide", "window a:wide 99",
            "window a:wide 100 100 100 100 100 100 100 100 100", "window a:;",
            GOOD + "window b:wide 5000 drop 200 face 0;",
            "window zz:wide 140 drop 200 face 0 lining 0 split;window"};
        Unchanged busy = new Unchanged(() -> emptied(States.busy()), "text");
        Unchanged full = new Unchanged(() -> emptied(States.full()), "text");
        for (String text : faulty) {
            busy.by("order() of '" + text + "'", x -> x.tell(text), NONE);
            full.by("order() of '" + text + "'", x -> x.tell(text), NONE);
            House x = States.busy();
            x.end(0);
            x.tell(text);
            due("about(3)", x.about(3), 0);
            due("order() of the tape that is empty then", x.order(), 0);
        }
        House x = new House();
        due("order() ahead of any", x.tell("?"), NONE);
        due("about(2)", x.about(2), 0);
        due("about(3)", x.about(3), 0);
    }

    private static House emptied(House x) {
        x.end(0);
        return x;
    }

    // ---- promise 9

    private static void faultOfTexts() {
        Edges.says(9, "0 its FAULT (0 without), 1 its place (NONE without). NONE for others, and ahead of any.");
        for (int what : Edges.row(Edges.LEAST, -2, -1, 2, 3, Edges.MOST)) {
            States.all("fault(" + what + ")", x -> x.fault(what), NONE);
        }
        House x = House.plain().put("?");
        due("fault(0) ahead of any", x.fault(0), NONE);
        due("fault(1) ahead of any", x.fault(1), NONE);
        x.end(0);
        due("fault(0) ahead of any", x.fault(0), NONE);
        Edges.says(9, "Of the latest text");
        Edges.fault(x, " ?", 1, 1);
        x.put("??");
        due("fault(1), the next text not being read yet", x.fault(1), 1);
        x.end(0);
        Edges.fault(x, GOOD, 0, NONE);
        Edges.fault(x, "window a:hems 2000", 3, 14);
        Edges.fault(x, "", 0, NONE);
    }

    /** Each token behind each beginning, after the language alone. */
    private static void everyTokenEverywhere() {
        Edges.says(9, "FAULTS: 1 it can't stand there, or is none; 2 a PART for the second time; 5 at the ;");
        List<String> tokens = new ArrayList<>(List.of("x", "abcdefgh", "abcdefghi", "Window", "0", ":", ";", "?", ""));
        tokens.addAll(List.of(WORDS));
        for (String token : tokens) {
            behind("", token, token.equals("window") || token.isEmpty() ? 0 : 1);
            behind(GOOD, token, token.equals("window") || token.isEmpty() ? 0 : 1);
            boolean name = List.of("x", "abcdefgh", "Window").contains(token);
            behind("window ", token, name ? 0 : 1);
            behind(GOOD + "window ", token, name ? 0 : 1);
            behind("window b ", token, token.equals(":") ? 0 : 1);
            behind("window b:", token, inside(token, "", false));
            for (int p = 0; p < NUMBERED.length; p++) {
                String part = NUMBERED[p];
                String most = "" + MOST_OF[p];
                behind("window b:" + part + " ", token.equals("0") ? most : token, token.equals("0") ? 0 : 1);
                behind("window b:" + part + " " + most + " ", token.equals("0") ? most : token,
                    inside(token, part, part.equals("wide")));
            }
            behind("window b:split ", token, inside(token, "split", false));
            behind("window b:wide 100 split ", token, token.equals("wide") ? 2 : inside(token, "split", false));
        }
    }

    private static int inside(String token, String part, boolean more) {
        if (token.equals(";")) {
            return 5;
        }
        if (token.equals("0")) {
            return more ? 0 : 1;
        }
        boolean word = List.of(WORDS).contains(token) && !token.equals("window");
        return !word ? 1 : token.equals(part) ? 2 : 0;
    }

    /** If a token may stand there the end behind it can't, but for the end of a text that is good. */
    private static void behind(String ahead, String token, int kind) {
        House x = House.plain();
        if (kind != 0) {
            Edges.fault(x, ahead + token, kind, ahead.length());
            Edges.fault(x, ahead + "\n " + token, kind, ahead.length() + 2);
        } else if (token.isEmpty()) {
            Edges.fault(x, ahead, 0, NONE);
        } else {
            Edges.fault(x, ahead + token, 1, ahead.length() + token.length());
        }
    }

    private static void notOfTheOneBefore() {
        Edges.says(9, "1 it can't stand there: a NUMBER ahead of any PART, whatever the one before ended with");
        String wideLast = "window a:drop 200 face 0 wide 100;";
        fresh(wideLast + "window b:100", 1, wideLast.length() + 9);
        House x = House.plain();
        Edges.fault(x, wideLast, 0, NONE);
        Edges.fault(x, "window b:100", 1, 9);
        Edges.fault(x, "window b:wide 100", 1, 17);
        Edges.fault(x, "window b:100", 1, 9);
        Edges.says(9, "4 the 9th side: of one WINDOW");
        String seven = "wide 100 100 100 100 100 100 100";
        Edges.fault(x, "window b:" + seven, 1, 9 + seven.length());
        Edges.fault(x, "window b:" + seven + " 100 drop 200 face 0;", 0, NONE);
        Edges.says(9, "2 for the second time: in a text that has a FAULT further on nothing is told");
        Edges.fault(x, wideLast + "window b:wide 100 ?", 1, wideLast.length() + 18);
        Edges.fault(x, "window b:face 0 wide 100 drop 200;", 0, NONE);
        Edges.fault(x, wideLast + "window b:;", 5, wideLast.length() + 9);
    }

    private static void everyByte() {
        Edges.says(9, "TOKENS, blanks (32, 10) aside: letters, digits, : ; (1: or is none)");
        for (int b = 0; b < 256; b++) {
            char c = (char) b;
            boolean letter = b >= 'a' && b <= 'z' || b >= 'A' && b <= 'Z';
            boolean digit = b >= '0' && b <= '9';
            boolean blank = b == 32 || b == 10;
            House x = House.plain();
            Edges.fault(x, "" + c, blank ? 0 : 1, blank ? NONE : 0);
            Edges.fault(x, c + GOOD, blank ? 0 : 1, blank ? NONE : 0);
            Edges.fault(x, GOOD + c, blank ? 0 : 1, blank ? NONE : GOOD.length());
            // as a name, and within one
            Edges.fault(x, GOOD.replace("a:", c + ":"), letter ? 0 : 1, letter ? NONE : blank ? 8 : 7);
            int place = letter ? NONE : blank || c == ':' ? 9 : 8;
            Edges.fault(x, GOOD.replace("a:", "a" + c + "b:"), letter ? 0 : 1, place);
            // behind a number
            String text = GOOD.replace("100 ", "100" + c);
            if (digit || blank) {
                Edges.fault(x, text, 0, NONE);
                due("window(0, 0) with byte " + b, x.window(0, 0), digit ? 1000 + b - '0' : 100);
            } else {
                Edges.fault(x, text, c == ';' ? 5 : 1, 17);
            }
        }
    }

    private static void names() {
        Edges.says(9, "others are NAMES, of 8 letters at most");
        for (int n = 1; n <= 12; n++) {
            String name = "abcdefghijkl".substring(0, n);
            fresh(GOOD.replace("a:", name + ":"), n <= 8 ? 0 : 1, n <= 8 ? NONE : 7);
        }
        fresh("window " + "z".repeat(593), 1, 7);
        fresh("w".repeat(600), 1, 0);
        fresh("windowwindow a:", 1, 0);
        for (String word : WORDS) {
            fresh("window " + word + ":", 1, 7);
            String near = word.substring(0, word.length() - 1);
            for (String name : List.of(word.toUpperCase(), near, word + "s", "x" + word, word + "A")) {
                fresh(GOOD.replace("a:", name + ":"), 0, NONE);
            }
            fresh("window a:" + word.toUpperCase() + " 100", 1, 9);
            fresh("window a:" + near, 1, 9);
            fresh("window a:" + word + "s", 1, 9);
        }
        Edges.says(9, "2 a NAME of a WINDOW for the second time");
        String[][] pairs = {{"a", "A"}, {"abcdefgh", "abcdefgi"}, {"abcdefgh", "bbcdefgh"}, {"a", "aa"}, {"ab", "ba"},
            {"abcdefgh", "Abcdefgh"}, {"aaaaaaa", "aaaaaaaa"}};
        for (String[] pair : pairs) {
            String one = GOOD.replace("a:", pair[0] + ":");
            fresh(one + GOOD.replace("a:", pair[1] + ":"), 0, NONE);
            fresh(one + GOOD.replace("a:", pair[1] + ":") + one, 2,
                2 * GOOD.length() + pair[0].length() + pair[1].length() - 2 + 7);
            fresh(one + "window " + pair[0], 2, one.length() + 7);
        }
        Edges.says(9, "2 for the second time: in one text alone, and a PART of one WINDOW alone");
        House x = House.plain();
        Edges.fault(x, GOOD, 0, NONE);
        Edges.fault(x, GOOD, 0, NONE);
        String all = "wide 100 drop 200 face 0 lining 0 full 100 hems 0 split";
        Edges.fault(x, "window a:" + all + ";window b:" + all + ";", 0, NONE);
        for (String part : all.split(" (?=[a-z])")) {
            String word = part.split(" ")[0];
            Edges.fault(x, "window a:" + all + " " + word, 2, 10 + all.length());
        }
    }

    private static void numbers() {
        Edges.says(9, "3 a NUMBER that isn't one of those told");
        for (int p = 0; p < NUMBERED.length; p++) {
            for (int n : Edges.row(LEAST_OF[p], LEAST_OF[p] + 1, MOST_OF[p] - 1, MOST_OF[p])) {
                if (n >= LEAST_OF[p] && n <= MOST_OF[p]) {
                    number(NUMBERED[p], "" + n, true);
                    number(NUMBERED[p], "0" + n, true);
                    number(NUMBERED[p], "0".repeat(500) + n, true);
                }
            }
            number(NUMBERED[p], "" + (MOST_OF[p] + 1), false);
            number(NUMBERED[p], MOST_OF[p] + "0".repeat(MOST_OF[p] == 0 ? 0 : 1), MOST_OF[p] == 0);
            if (LEAST_OF[p] > 0) {
                number(NUMBERED[p], "" + (LEAST_OF[p] - 1), false);
                number(NUMBERED[p], "0", false);
            }
            for (int bits : Edges.row(8, 15, 16, 31, 32, 63, 64, 128)) {
                java.math.BigInteger wrap = java.math.BigInteger.ONE.shiftLeft(bits);
                java.math.BigInteger around = wrap.add(java.math.BigInteger.valueOf(MOST_OF[p]));
                if (around.bitLength() > 13) {
                    number(NUMBERED[p], around.toString(), false);
                    number(NUMBERED[p], "000" + around, false);
                }
            }
            number(NUMBERED[p], "9".repeat(550), false);
            number(NUMBERED[p], "1" + "0".repeat(549), false);
        }
        House x = new House();
        Edges.fault(x, "window a:face 0", 3, 14);
        for (int c = 0; c < 6; c++) {
            Edges.fault(x, "window a:face " + c, 3, 14);
            x.cloth(300, 0, false, 0);
            Edges.fault(x, "window a:lining " + c, 1, 17);
        }
        Edges.fault(x, "window a:lining 6", 3, 16);
        Edges.fault(x, "window a:face 5", 1, 15);
    }

    /** At its end, if the number may stand, the text has a fault; else at the number. */
    private static void number(String part, String digits, boolean told) {
        String ahead = "window a:" + part + " ";
        fresh(ahead + digits, told ? 1 : 3, ahead.length() + (told ? digits.length() : 0));
    }

    private static void tooMany() {
        Edges.says(9, "sides, 8 at most; 4 the 9th side");
        String sides = " 100 5000 100 5000 100 5000 100 5000";
        House x = House.plain();
        for (int n = 1; n <= 8; n++) {
            String text = "window a:wide" + " 5000".repeat(n);
            Edges.fault(x, text, 1, text.length());
            Edges.fault(x, text + " 99", 3, text.length() + 1);
            Edges.fault(x, text + " 5001", 3, text.length() + 1);
        }
        String eight = "window a:wide" + sides;
        Edges.fault(x, eight + " 100", 4, eight.length() + 1);
        Edges.fault(x, eight + " 5000 100", 4, eight.length() + 1);
        Edges.fault(x, eight + "\n\n5000", 4, eight.length() + 2);
        Edges.fault(x, eight + " drop 200 200", 1, eight.length() + 10);
        String narrow = "wide 100 100 100 100 100 100 100 100 drop 200 face 0;";
        Edges.fault(x, "window a:" + narrow + "window b:" + narrow, 0, NONE);
        due("window(1, 0)", x.window(1, 0), 800);
        Edges.says(9, "4 the 13th WINDOW (at its NAME)");
        House six = States.full();
        six.end(0);
        String twelve = States.twelve();
        Edges.fault(six, twelve, 0, NONE);
        Edges.fault(six, twelve + "window m", 4, twelve.length() + 7);
        Edges.fault(six, twelve + "\nwindow\nabcdefgh:;", 4, twelve.length() + 8);
        Edges.fault(six, twelve + "window", 1, twelve.length() + 6);
        Edges.fault(six, twelve + "windo", 1, twelve.length());
    }

    private static void leastAndFirst() {
        Edges.says(9, "FAULTS, the first as TOKENS are come to, of one the least");
        House x = House.plain();
        String twelve = States.twelve().replaceAll("face .", "face 0");
        Edges.fault(x, twelve + "window a", 2, twelve.length() + 7);
        Edges.fault(x, twelve + "window l", 2, twelve.length() + 7);
        Edges.fault(x, twelve + "window wide", 1, twelve.length() + 7);
        Edges.fault(x, twelve + "window abcdefghi", 1, twelve.length() + 7);
        String eight = "window a:wide 100 100 100 100 100 100 100 100 ";
        Edges.fault(x, eight + "99", 3, eight.length());
        Edges.fault(x, eight + "5001", 3, eight.length());
        Edges.fault(x, eight + "wide", 2, eight.length());
        Edges.fault(x, "window a:wide 100 drop wide", 1, 23);
        Edges.fault(x, "window a:wide;", 1, 13);
        Edges.fault(x, "window a:wide 99 99;", 3, 14);
        Edges.fault(x, "window a:split split ?", 2, 15);
        Edges.fault(x, "window a:? split split", 1, 9);
        Edges.fault(x, "window a:;window a:;", 5, 9);
        Edges.fault(x, "window a:wide 5000 drop 200 face 0;?", 5, 34);
        Edges.says(9, "at the TOKEN's first byte (of the end at the length)");
        Edges.fault(x, "window a:wide   00099", 3, 16);
        Edges.fault(x, "   abcdefghi", 1, 3);
        Edges.fault(x, "window", 1, 6);
        Edges.fault(x, "window \n \n ", 1, 11);
        Edges.fault(x, "window a:wide 100 drop 200 face 0 ", 1, 34);
    }

    private static void incomplete() {
        Edges.says(9, "5 (at the ; of a WINDOW) wide, drop or face lacks");
        String[] needed = {"wide 100 ", "drop 200 ", "face 0 "};
        for (int set = 0; set < 8; set++) {
            StringBuilder text = new StringBuilder("window a:lining 0 full 100 hems 0 split ");
            for (int i = 2; i >= 0; i--) {
                text.append((set & 1 << i) != 0 ? needed[i] : "");
            }
            fresh(text + ";", set == 7 ? 0 : 5, set == 7 ? NONE : text.length());
        }
        fresh(GOOD + "window b: \n;", 5, GOOD.length() + 11);
        Edges.says(9, "5 it has more than 8 PANELS");
        panels("wide 1120 drop 200 face 0", "wide 1121 drop 200 face 0");
        panels("wide 2240 drop 200 face 0 full 100", "wide 2241 drop 200 face 0 full 100");
        panels("wide 560 drop 200 face 0 full 400", "wide 561 drop 200 face 0 full 400");
        panels("wide 560 560 drop 200 face 0", "wide 560 561 drop 200 face 0");
        panels("full 400 face 1 wide 1980 1980 drop 5000", "full 400 face 1 wide 1980 1981 drop 5000");
        panels("wide 1120 drop 200 face 1 lining 0", "wide 1121 drop 200 face 1 lining 0");
        panels("wide 1120 drop 200 face 0 lining 0", "wide 1121 drop 200 face 0 lining 1");
        panels("wide 5000 5000 5000 840 drop 200 face 1 full 100", "wide 5000 5000 5000 841 drop 200 face 1 full 100");
        String widest = "wide 5000 5000 5000 5000 5000 5000 5000 5000 drop 5000 hems 1000 face ";
        panels("wide 100 drop 200 face 0", widest + "0 full 400");
        panels("wide 100 drop 200 face 0 full 400", widest + "1 full 100");
    }

    private static void panels(String eight, String more) {
        House x = House.plain();
        x.cloth(2000, 0, false, 0);
        Edges.fault(x, "window a:" + eight + ";", 0, NONE);
        Edges.fault(x, "window a:" + more + ";", 5, 9 + more.length());
        Edges.fault(x, "window a:" + eight + ";window b:" + more + ";", 5, 19 + eight.length() + more.length());
    }

    public static void main(String[] args) {
        twentyBytes();
        fullTape();
        end();
        order();
        orderStays();
        faultOfTexts();
        everyTokenEverywhere();
        notOfTheOneBefore();
        everyByte();
        names();
        numbers();
        tooMany();
        leastAndFirst();
        incomplete();
        Edges.finish(6, 9);
    }
}
