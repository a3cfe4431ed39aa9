import java.util.List;
import java.util.function.IntUnaryOperator;
import java.util.function.ToIntFunction;

/**
 * "An object is used for at most 512 calls": to the last of them it answers as to the first ones,
 * whatever the others were.
 */
public final class CallsTest {
    private static final int NONE = Edges.NONE;
    private static final String LAST = "the last of 512 calls answers as the first ones do";

    private static void due(String call, int got, int want) {
        Edges.due(call, got, want);
    }

    /** A call on the busy house of States, and its answer there. */
    private record Call(int promise, String name, ToIntFunction<House> asked, int answer) { }

    private static final List<Call> CALLS = List.of(
        new Call(2, "cloth(300, 0, false, 0)", x -> x.cloth(300, 0, false, 0), 3),
        new Call(3, "bolt(0, 100)", x -> x.bolt(0, 100), 5),
        new Call(4, "flaw(2, 11999)", x -> x.flaw(2, 11999), 3),
        new Call(5, "boltOf(2, 11)", x -> x.boltOf(2, 11), 50),
        new Call(6, "feed(0, 0, 0, 0, 0)", x -> x.feed(0, 0, 0, 0, 0), 106),
        new Call(7, "end(43)", x -> x.end(43), 43),
        new Call(8, "order()", x -> x.order(), 2),
        new Call(9, "fault(0)", x -> x.fault(0), 3),
        new Call(10, "window(3, 0)", x -> x.window(3, 0), 700),
        new Call(11, "layer(1, 1, 1)", x -> x.layer(1, 1, 1), 445),
        new Call(12, "pleat(3, 4, true)", x -> x.pleat(3, 4, true), 117),
        new Call(13, "drop(1, 0, 0, 2)", x -> x.drop(1, 0, 0, 2), 400),
        new Call(14, "lost()", x -> x.lost(), 2),
        new Call(15, "plan(1)", x -> x.plan(1), 1),
        new Call(16, "bound(1)", x -> x.bound(1), 1),
        new Call(17, "cut(0)", x -> x.cut(0), 1),
        new Call(18, "lacks(0)", x -> x.lacks(0), 300),
        new Call(19, "benches()", x -> x.benches(), 16 + 11),
        new Call(20, "bench(0, 0)", x -> x.bench(0, 0), 1),
        new Call(21, "about(2)", x -> x.about(2), 4));

    /** A house that may be asked that many calls more. */
    private static House nearlyDone(House x, int left) {
        while (x.left() > left) {
            x.about(x.left() % 5);
        }
        return x;
    }

    private static void lastOfMany() {
        for (Call call : CALLS) {
            Edges.says(call.promise(), LAST);
            due(call.name(), call.asked().applyAsInt(States.busy()), call.answer());
            due("the 512th call, " + call.name(), call.asked().applyAsInt(nearlyDone(States.busy(), 1)),
                call.answer());
        }
    }

    private static void seenByTheLast(int promise, ToIntFunction<House> change, ToIntFunction<House> look, int want) {
        Edges.says(promise, "what the last but one of 512 calls does the last one sees");
        House x = nearlyDone(States.busy(), 2);
        change.applyAsInt(x);
        due("the 512th call", look.applyAsInt(x), want);
    }

    private static void lastChanges() {
        seenByTheLast(2, x -> x.cloth(300, 0, false, 0), x -> x.about(0), 4);
        seenByTheLast(3, x -> x.bolt(0, 100), x -> x.about(1), 6);
        seenByTheLast(4, x -> x.flaw(2, 11999), x -> x.boltOf(2, 12), 11999);
        seenByTheLast(6, x -> x.feed(0, 0, 0, 0, 0), x -> x.about(3), 106);
        seenByTheLast(7, x -> x.end(43), x -> x.order(), 1);
        seenByTheLast(8, x -> x.order(), x -> x.window(1, 0), 140);
        seenByTheLast(17, x -> x.cut(0), x -> x.lacks(0), 0);
    }

    /** All 512 calls of a house are that one. */
    private static void only(int promise, House x, ToIntFunction<House> call, IntUnaryOperator answer) {
        Edges.says(promise, "512 calls, all the same");
        for (int n = 0; x.left() > 0; n++) {
            due("that call for the " + (n + 1) + ". time", call.applyAsInt(x), answer.applyAsInt(n));
        }
    }

    private static void allTheSame() {
        only(2, new House(), x -> x.cloth(300, 0, false, 0), n -> n < 6 ? n : NONE);
        only(3, House.plain(), x -> x.bolt(0, 100), n -> n < 12 ? n : NONE);
        only(4, House.plain(100), x -> x.flaw(0, 99), n -> n == 0 ? 1 : NONE);
        only(6, new House(), x -> x.feed(0, 0, 0, 0, 0), n -> n < 30 ? 20 * (n + 1) : NONE);
        only(7, new House(), x -> x.end(0), n -> 0);
        only(8, new House().put("window"), x -> x.order(), n -> n == 0 ? NONE : 0);
        only(15, told(), x -> x.plan(0), n -> 2);
        only(17, told(), x -> x.cut(0), n -> n == 0 ? 4 : 0);
        only(19, new House(), x -> x.benches(), n -> 0);
    }

    private static House told() {
        House x = House.plain(600, 600);
        x.tell(House.split("a", 4, 300));
        return x;
    }

    private static void cutAgainAndAgain() {
        Edges.says(14, "How many DROPS were LOST up to now: of as many texts as 512 calls can bring");
        House x = House.plain(60000);
        String[] texts = {"window a:wide 100drop 200face 0hems 0;", "window b:wide 100drop 200face 0hems 0;"};
        int rounds = 0;
        // A round is 6 calls: 38 bytes come in two twenties, then end, order, cut and lost.
        while (x.left() >= 7) {
            due("order()", x.tell(texts[rounds % 2]), 1);
            due("cut(0)", x.cut(0), 1);
            due("lost()", x.lost(), rounds);
            rounds++;
        }
        due("boltOf(0, 2)", x.boltOf(0, 2), 200 * rounds);
        due("rounds", rounds, 84);
    }

    public static void main(String[] args) {
        lastOfMany();
        lastChanges();
        allTheSame();
        cutAgainAndAgain();
        Edges.finish(2, 21);
    }
}
