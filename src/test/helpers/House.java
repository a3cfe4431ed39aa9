import java.nio.charset.StandardCharsets;
import java.util.Arrays;

/** A CurtainHouse that takes whole texts, and sees to it that no test asks it more than is promised. */
final class House {
    /** What an object answers to later calls is free. */
    private static final int PROMISED_CALLS = 512;

    private final CurtainHouse inner = new CurtainHouse();
    private int calls = 0;

    private CurtainHouse asked() {
        calls++;
        if (calls > PROMISED_CALLS) {
            throw new IllegalStateException("a test makes more than 512 calls on one object");
        }
        return inner;
    }

    /** How many calls more it may be asked. */
    int left() {
        return PROMISED_CALLS - calls;
    }

    int cloth(int width, int repeat, boolean half, int shrink) {
        return asked().cloth(width, repeat, half, shrink);
    }

    int bolt(int cloth, int length) {
        return asked().bolt(cloth, length);
    }

    int flaw(int bolt, int place) {
        return asked().flaw(bolt, place);
    }

    int boltOf(int bolt, int what) {
        return asked().boltOf(bolt, what);
    }

    int feed(int a, int b, int c, int d, int e) {
        return asked().feed(a, b, c, d, e);
    }

    int end(int n) {
        return asked().end(n);
    }

    int order() {
        return asked().order();
    }

    int fault(int what) {
        return asked().fault(what);
    }

    int window(int w, int what) {
        return asked().window(w, what);
    }

    int layer(int w, int layer, int what) {
        return asked().layer(w, layer, what);
    }

    int pleat(int w, int i, boolean gap) {
        return asked().pleat(w, i, gap);
    }

    int drop(int w, int layer, int panel, int what) {
        return asked().drop(w, layer, panel, what);
    }

    int lost() {
        return asked().lost();
    }

    int plan(int cloth) {
        return asked().plan(cloth);
    }

    int bound(int cloth) {
        return asked().bound(cloth);
    }

    int cut(int cloth) {
        return asked().cut(cloth);
    }

    int lacks(int cloth) {
        return asked().lacks(cloth);
    }

    int benches() {
        return asked().benches();
    }

    int bench(int i, int what) {
        return asked().bench(i, what);
    }

    int about(int what) {
        return asked().about(what);
    }

    /** Twenty bytes of a text, what is behind its end being zeros. */
    int feedTwenty(byte[] bytes, int from) {
        byte[] twenty = Arrays.copyOfRange(bytes, from, from + 20);
        int[] v = new int[5];
        for (int k = 0; k < 20; k++) {
            v[k / 4] = v[k / 4] << 8 | twenty[k] & 255;
        }
        return feed(v[0], v[1], v[2], v[3], v[4]);
    }

    /** Puts a text on the empty tape, a character a byte. */
    House put(String text) {
        byte[] bytes = text.getBytes(StandardCharsets.ISO_8859_1);
        for (int i = 0; i < bytes.length; i += 20) {
            feedTwenty(bytes, i);
        }
        end(bytes.length);
        return this;
    }

    /** What order() answers to a text. */
    int tell(String text) {
        return put(text).order();
    }

    /** A house whose cloth 0 has a WIDTH of 300, with bolts of it. */
    static House patterned(int repeat, boolean half, int... lengths) {
        House x = new House();
        x.cloth(300, repeat, half, 0);
        for (int length : lengths) {
            x.bolt(0, length);
        }
        return x;
    }

    static House plain(int... lengths) {
        return patterned(0, false, lengths);
    }

    /** A window of that many panels of a cloth with a WIDTH of 300; LONG is 200 .. 1200. */
    static String win(String name, int panels, int length) {
        return "window " + name + ":wide " + 140 * panels + " drop 200 face 0 hems " + (length - 200) + ";";
    }

    static String split(String name, int panels, int length) {
        return win(name, panels, length).replace(";", " split;");
    }

    /** With its face of another cloth, with a lining, and so on: words put behind the drop. */
    static String with(String window, String parts) {
        return window.replace("face 0", parts);
    }
}
