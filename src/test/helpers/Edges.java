import java.util.ArrayList;
import java.util.Arrays;
import java.util.List;
import java.util.TreeSet;

/** Counts the answers that are not as due; each is told with the promise and the sentence that it breaks. */
final class Edges {
    static final int NONE = CurtainHouse.NONE;
    static final int LEAST = Integer.MIN_VALUE;
    static final int MOST = Integer.MAX_VALUE;

    private static final TreeSet<Integer> SAID = new TreeSet<>();
    private static String sentence = "";
    private static int checked = 0;
    private static int wrong = 0;

    private Edges() { }

    /** What follows is of that sentence of the document. */
    static void says(int promise, String words) {
        SAID.add(promise);
        sentence = "promise " + promise + ", \"" + words + "\"";
    }

    static void due(String call, Object got, Object want) {
        checked++;
        if (!got.equals(want)) {
            wrong++;
            System.out.println(sentence + ": " + call + " answered " + got + ", due is " + want);
        }
    }

    /** The numbers just outside a range, and the ends of int. */
    static int[] outside(int least, int most) {
        return new int[] {least - 1, most + 1, LEAST, LEAST + 1, MOST - 1, MOST};
    }

    static int[] row(int... numbers) {
        return numbers;
    }

    /** Bolt and place of each drop of a layer. */
    static void drops(House x, int w, int layer, int... boltsAndPlaces) {
        List<Integer> got = new ArrayList<>();
        for (int p = 0; 2 * p < boltsAndPlaces.length; p++) {
            got.add(x.drop(w, layer, p, 0));
            got.add(x.drop(w, layer, p, 1));
        }
        due("drop(" + w + ", " + layer + ", .., 0 and 1)", got, Arrays.stream(boltsAndPlaces).boxed().toList());
    }

    static void fault(House x, String text, int kind, int place) {
        int windows = x.tell(text);
        due("whether order() of '" + text + "' is NONE", windows == NONE, kind != 0);
        due("fault(0) of '" + text + "'", x.fault(0), kind);
        due("fault(1) of '" + text + "'", x.fault(1), place);
    }

    /** Ends the test: all these promises must have been tested, and all answers be as due. */
    static void finish(int first, int last) {
        for (int promise = first; promise <= last; promise++) {
            sentence = "promise " + promise;
            due("whether a sentence of it has a test", SAID.contains(promise), true);
        }
        System.out.println(wrong == 0 ? checked + " answers at edges are as due" : wrong + " answers are not as due");
        if (wrong != 0) {
            System.exit(1);
        }
    }
}
