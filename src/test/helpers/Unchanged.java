import java.util.ArrayList;
import java.util.LinkedHashMap;
import java.util.List;
import java.util.Map;
import java.util.Set;
import java.util.function.Consumer;
import java.util.function.Supplier;
import java.util.function.ToIntFunction;

/**
 * A house in some state, of which a call has to leave everything as it was. All that the other
 * methods answer is asked, part by part, each of a house of its own, so that no house has too many
 * calls and the parts that change a house (a cut, an order, a new cloth) don't spoil the others.
 */
final class Unchanged {
    private final Supplier<House> make;
    private final Set<String> aside;
    private final Map<String, List<String>> before = new LinkedHashMap<>();

    /** A part of the view, as it is being asked. */
    private static final class View {
        final House house;
        final List<String> answers = new ArrayList<>();

        View(House house) {
            this.house = house;
        }

        int add(String call, int answer) {
            answers.add(call + " = " + answer);
            return answer;
        }
    }

    /** A state; the parts of the view that stand aside are not looked at. */
    Unchanged(Supplier<House> make, String... aside) {
        this.make = make;
        this.aside = Set.of(aside);
        parts().forEach((part, ask) -> before.put(part, answers(make.get(), ask)));
    }

    /** The call has that answer, and all else is as it was before it. */
    void by(String call, ToIntFunction<House> asked, int answer) {
        parts().forEach((part, ask) -> {
            House house = make.get();
            int got = asked.applyAsInt(house);
            if (part.equals("counts")) {
                Edges.due(call, got, answer);
            }
            if (!aside.contains(part)) {
                compare(call, before.get(part), answers(house, ask));
            }
        });
    }

    private static void compare(String call, List<String> was, List<String> is) {
        for (int i = 0; i < Math.min(was.size(), is.size()); i++) {
            if (!was.get(i).equals(is.get(i))) {
                Edges.due("behind " + call, is.get(i), was.get(i));
                return;
            }
        }
        Edges.due("behind " + call + ": how many answers there are", is.size(), was.size());
    }

    private static List<String> answers(House house, Consumer<View> ask) {
        View view = new View(house);
        ask.accept(view);
        return view.answers;
    }

    private static Map<String, Consumer<View>> parts() {
        Map<String, Consumer<View>> out = new LinkedHashMap<>();
        out.put("counts", Unchanged::counts);
        out.put("bolts", Unchanged::bolts);
        out.put("windows", Unchanged::windows);
        out.put("pleats", Unchanged::pleats);
        out.put("faces", view -> drops(view, 0));
        out.put("linings", view -> drops(view, 1));
        out.put("plans", Unchanged::plans);
        out.put("cuts", Unchanged::cuts);
        out.put("text", Unchanged::text);
        out.put("next", Unchanged::next);
        return out;
    }

    private static void counts(View view) {
        for (int what = 0; what <= 2; what++) {
            view.add("about(" + what + ")", view.house.about(what));
        }
        view.add("lost()", view.house.lost());
    }

    private static void bolts(View view) {
        for (int b = 0; b < 12; b++) {
            for (int what : new int[] {0, 1, 2, 3, 10, 11, 12, 13}) {
                view.add("boltOf(" + b + ", " + what + ")", view.house.boltOf(b, what));
            }
        }
    }

    private static void windows(View view) {
        for (int w = 0; w < 12; w++) {
            for (int what = 0; what <= 10; what++) {
                view.add("window(" + w + ", " + what + ")", view.house.window(w, what));
            }
            for (int what = 0; what <= 2; what++) {
                view.add("layer(" + w + ", 0, " + what + ")", view.house.layer(w, 0, what));
                view.add("layer(" + w + ", 1, " + what + ")", view.house.layer(w, 1, what));
            }
        }
    }

    private static void pleats(View view) {
        for (int w = 0; w < 12; w++) {
            for (int i = 0; i < 6; i++) {
                view.add("pleat(" + w + ", " + i + ", false)", view.house.pleat(w, i, false));
                view.add("pleat(" + w + ", " + i + ", true)", view.house.pleat(w, i, true));
            }
        }
    }

    private static void drops(View view, int layer) {
        for (int w = 0; w < 12; w++) {
            for (int p = 0; p < 8; p++) {
                for (int what = 0; what <= 2; what++) {
                    view.add("drop(" + w + ", " + layer + ", " + p + ", " + what + ")",
                        view.house.drop(w, layer, p, what));
                }
            }
        }
    }

    private static void plans(View view) {
        for (int c = 0; c < 6; c++) {
            view.add("plan(" + c + ")", view.house.plan(c));
            view.add("bound(" + c + ")", view.house.bound(c));
            view.add("lacks(" + c + ")", view.house.lacks(c));
        }
        view.add("benches()", view.house.benches());
        for (int i = 0; i < 12; i++) {
            view.add("bench(" + i + ", 0)", view.house.bench(i, 0));
            view.add("bench(" + i + ", 1)", view.house.bench(i, 1));
        }
    }

    private static void cuts(View view) {
        for (int c = 0; c < 6; c++) {
            view.add("cut(" + c + ")", view.house.cut(c));
        }
        for (int b = 0; b < 12; b++) {
            view.add("boltOf(" + b + ", 2) behind a cut", view.house.boltOf(b, 2));
        }
        for (int w = 0; w < 12; w++) {
            for (int p = 0; p < 8; p++) {
                view.add("drop(" + w + ", 0, " + p + ", 1) behind a cut", view.house.drop(w, 0, p, 1));
            }
        }
        view.add("benches() behind a cut", view.house.benches());
    }

    /** What is on the tape is seen from what it is read as. */
    private static void text(View view) {
        view.add("fault(0)", view.house.fault(0));
        view.add("fault(1)", view.house.fault(1));
        view.add("about(3)", view.house.about(3));
        view.add("order()", view.house.order());
        view.add("fault(0) behind order()", view.house.fault(0));
        view.add("fault(1) behind order()", view.house.fault(1));
        view.add("lost() behind order()", view.house.lost());
        windows(view);
    }

    private static void next(View view) {
        for (int b = 0; b < 12; b++) {
            int last = view.house.boltOf(b, 1) - 1;
            view.add("flaw(" + b + ", " + last + ")", view.house.flaw(b, last));
        }
        view.add("the next cloth", view.house.cloth(300, 0, false, 0));
        view.add("the next bolt", view.house.bolt(0, 100));
        view.add("the next feed", view.house.feed(0, 0, 0, 0, 0));
    }
}
