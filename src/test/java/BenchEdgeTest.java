import java.util.ArrayList;
import java.util.Collections;
import java.util.List;

/** The edges of promises 19 to 21: the two benches, and what the house has. */
public final class BenchEdgeTest {
    private static final int NONE = Edges.NONE;

    private static void due(String call, int got, int want) {
        Edges.due(call, got, want);
    }

    /** Minutes of a window at the two benches, of which it is made: 12 .. 60, and an odd 7 .. 37. */
    private record Work(int first, int second) {
        String text(char name, int cloth) {
            return "window " + name + ":wide" + Math.max(100, (second - 5) / 2 * 120) + "drop" + (first - 10) * 100
                + "full100face" + cloth + ";";
        }
    }

    private static Work work(int first, int second) {
        return new Work(first, second);
    }

    /** A house in which windows of those works are cut, of two cloths in turn. */
    private static House worked(List<Work> works) {
        House x = new House();
        StringBuilder text = new StringBuilder();
        for (int c = 0; c < 2; c++) {
            x.cloth(2000, 0, false, 0);
            x.bolt(c, 60000);
        }
        for (int w = 0; w < works.size(); w++) {
            text.append(works.get(w).text((char) ('a' + w), w % 2));
        }
        due("order()", x.tell(text.toString()), works.size());
        due("cut(0)", x.cut(0), (works.size() + 1) / 2);
        due("cut(1)", x.cut(1), works.size() / 2);
        for (int w = 0; w < works.size(); w++) {
            due("window(" + w + ", 9)", x.window(w, 9), works.get(w).first);
            due("window(" + w + ", 10)", x.window(w, 10), works.get(w).second);
        }
        return x;
    }

    /** The windows come in that order, and are done one behind the other at each bench. */
    private static void comes(List<Work> works, int... order) {
        House x = worked(works);
        int first = 0;
        int second = 0;
        for (int i = 0; i < order.length; i++) {
            Work work = works.get(order[i]);
            first += work.first;
            second = Math.max(first, second) + work.second;
            due("bench(" + i + ", 0) of " + works, x.bench(i, 0), order[i]);
            due("bench(" + i + ", 1) of " + works, x.bench(i, 1), second);
        }
        due("bench(" + order.length + ", 0)", x.bench(order.length, 0), NONE);
        due("benches() of " + works, x.benches(), second);
    }

    // ---- promise 19

    private static void benches() {
        Edges.says(19, "0 without any");
        States.NEW.by("benches()", x -> x.benches(), 0);
        House x = House.plain(300);
        x.tell(House.win("a", 1, 300) + House.win("b", 1, 300));
        due("benches() if all LACK", x.benches(), 0);
        x.order();
        due("benches() without windows", x.benches(), 0);
        Edges.says(19, "WINDOWS of which no DROP LACKS");
        House cut = House.plain(2400);
        cut.cloth(300, 0, false, 0);
        cut.bolt(1, 300);
        cut.tell(House.win("a", 7, 300));
        cut.cut(0);
        due("benches() of all seven", cut.benches(), 24 + 5 + 2 * 8);
        cut.tell(House.win("a", 8, 300));
        due("benches() if one of eight LACKS", cut.benches(), 0);
        due("bench(0, 0)", cut.bench(0, 0), NONE);
        cut.cut(0);
        due("benches() of all eight", cut.benches(), 26 + 5 + 2 * 9);
        House lined = House.plain(2400);
        lined.cloth(300, 0, false, 0);
        lined.bolt(1, 300);
        lined.tell(House.with(House.win("a", 1, 300), "face 0 lining 1"));
        lined.cut(0);
        due("benches() if the lining LACKS", lined.benches(), 0);
        lined.cut(1);
        due("benches() of face and lining", lined.benches(), 12 + 7);
        lined.tell(House.with(House.win("a", 1, 300), "face 1 lining 1"));
        due("benches() if the face LACKS", lined.benches(), 0);
        Edges.says(19, "all WINDOWS of which no DROP LACKS, and no other");
        House some = House.plain(600);
        some.tell(House.win("b", 1, 300));
        some.cut(0);
        some.tell(House.win("a", 1, 300) + House.win("b", 1, 300) + House.win("c", 2, 300));
        due("benches()", some.benches(), 19);
        due("bench(0, 0)", some.bench(0, 0), 1);
        due("bench(1, 0)", some.bench(1, 0), NONE);
        some.tell(House.win("b", 1, 301));
        due("benches() if it is LOST", some.benches(), 0);
        Edges.says(19, "When the benches are done: of one to twelve");
        List<Work> works = new ArrayList<>();
        for (int n = 1; n <= 12; n++) {
            works.add(work(12, 7));
            due("benches() of " + n, worked(works).benches(), 12 * n + 7);
        }
        works = new ArrayList<>();
        for (int n = 1; n <= 12; n++) {
            works.add(work(12, 37));
            due("benches() of " + n, worked(works).benches(), 12 + 37 * n);
        }
        States.BUSY.by("benches() changes nothing", y -> y.benches(), 10 + 6 + 11);
    }

    // ---- promise 20

    private static void order() {
        Edges.says(20, "first those with no more minutes at the first than at the second");
        comes(List.of(work(16, 15), work(15, 15)), 1, 0);
        comes(List.of(work(16, 15), work(14, 15)), 1, 0);
        comes(List.of(work(30, 29), work(31, 31)), 1, 0);
        comes(List.of(work(12, 11), work(37, 37)), 1, 0);
        comes(List.of(work(60, 37), work(37, 37), work(12, 7)), 1, 0, 2);
        Edges.says(20, "by rising minutes at the first");
        comes(List.of(work(14, 31), work(13, 15), work(12, 21)), 2, 1, 0);
        comes(List.of(work(15, 15), work(14, 37)), 1, 0);
        comes(List.of(work(14, 15), work(15, 37)), 0, 1);
        Edges.says(20, "then the others by falling minutes at the second");
        comes(List.of(work(30, 9), work(40, 11), work(20, 13)), 2, 1, 0);
        comes(List.of(work(20, 7), work(60, 9)), 1, 0);
        comes(List.of(work(60, 9), work(20, 7)), 0, 1);
        Edges.says(20, "like ones by numbers");
        comes(List.of(work(12, 21), work(12, 31), work(12, 15)), 0, 1, 2);
        comes(List.of(work(12, 15), work(12, 31), work(12, 21)), 0, 1, 2);
        comes(List.of(work(30, 9), work(50, 9), work(40, 9)), 0, 1, 2);
        comes(List.of(work(50, 9), work(30, 9), work(40, 9)), 0, 1, 2);
        comes(List.of(work(15, 15), work(30, 15), work(15, 15), work(16, 15)), 0, 2, 1, 3);
        comes(Collections.nCopies(12, work(12, 7)), 0, 1, 2, 3, 4, 5, 6, 7, 8, 9, 10, 11);
        comes(Collections.nCopies(12, work(12, 37)), 0, 1, 2, 3, 4, 5, 6, 7, 8, 9, 10, 11);
        Edges.says(20, "THE ORDER of the benches: in whichever order the WINDOWS come");
        everyOrder(List.of(work(12, 21), work(15, 15), work(12, 7), work(40, 9), work(30, 9), work(16, 15)));
    }

    private static void everyOrder(List<Work> works) {
        List<List<Work>> orders = new ArrayList<>();
        arrange(new ArrayList<>(works), 0, orders);
        for (List<Work> order : orders) {
            List<Integer> rising = new ArrayList<>();
            List<Integer> falling = new ArrayList<>();
            for (int w = 0; w < order.size(); w++) {
                (order.get(w).first <= order.get(w).second ? rising : falling).add(w);
            }
            rising.sort((a, b) -> order.get(a).first - order.get(b).first);
            falling.sort((a, b) -> order.get(b).second - order.get(a).second);
            rising.addAll(falling);
            comes(order, rising.stream().mapToInt(w -> w).toArray());
        }
    }

    private static void arrange(List<Work> works, int from, List<List<Work>> out) {
        if (from == works.size()) {
            out.add(List.copyOf(works));
        }
        for (int i = from; i < works.size(); i++) {
            Collections.swap(works, from, i);
            arrange(works, from + 1, out);
            Collections.swap(works, from, i);
        }
    }

    private static void benchNumbers() {
        Edges.says(20, "NONE if there is none such.");
        Unchanged three = new Unchanged(() -> worked(List.of(work(12, 21), work(15, 15), work(12, 7))));
        for (int i : Edges.outside(0, 2)) {
            three.by("bench(" + i + ", 0)", x -> x.bench(i, 0), NONE);
            three.by("bench(" + i + ", 1)", x -> x.bench(i, 1), NONE);
        }
        for (int what : Edges.outside(0, 1)) {
            three.by("bench(0, " + what + ")", x -> x.bench(0, what), NONE);
            three.by("bench(2, " + what + ")", x -> x.bench(2, what), NONE);
        }
        for (int i : Edges.row(Edges.LEAST, -1, 0, 11, 12, Edges.MOST)) {
            States.NEW.by("bench(" + i + ", 0)", x -> x.bench(i, 0), NONE);
            States.FULL.by("bench(" + i + ", 0) if all LACK", x -> x.bench(i, 0), NONE);
            States.FULL.by("bench(" + i + ", 1) if all LACK", x -> x.bench(i, 1), NONE);
        }
        House x = worked(Collections.nCopies(12, work(12, 7)));
        due("bench(11, 0)", x.bench(11, 0), 11);
        due("bench(11, 1)", x.bench(11, 1), 151);
        due("bench(12, 0)", x.bench(12, 0), NONE);
        due("bench(12, 1)", x.bench(12, 1), NONE);
        Edges.says(20, "the i-th WINDOW: of the ORDER as it is now");
        x.order();
        due("bench(0, 0)", x.bench(0, 0), NONE);
        due("benches()", x.benches(), 0);
    }

    // ---- promise 21

    private static void about() {
        Edges.says(21, "0 CLOTHS, 1 BOLTS, 2 WINDOWS, 3 bytes of the tape. NONE for others.");
        for (int what : Edges.outside(0, 3)) {
            States.all("about(" + what + ")", x -> x.about(what), NONE);
        }
        int[] full = {6, 12, 12, 600};
        int[] busy = {3, 5, 4};
        for (int what = 0; what <= 3; what++) {
            int asked = what;
            States.NEW.by("about(" + what + ")", x -> x.about(asked), 0);
            States.FULL.by("about(" + what + ")", x -> x.about(asked), full[what]);
        }
        for (int what = 0; what <= 2; what++) {
            int asked = what;
            States.BUSY.by("about(" + what + ")", x -> x.about(asked), busy[what]);
        }
        House x = new House();
        for (int n = 1; n <= 600; n += n < 590 ? 31 : 1) {
            x = House.plain(100).put(" ".repeat(n));
            due("about(3)", x.about(3), n);
        }
        due("order()", x.order(), 0);
        due("about(3) behind order()", x.about(3), 0);
        Edges.says(21, "the constants: NONE = -1");
        due("NONE", CurtainHouse.NONE, -1);
    }

    public static void main(String[] args) {
        benches();
        order();
        benchNumbers();
        about();
        Edges.finish(19, 21);
    }
}
