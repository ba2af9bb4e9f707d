import java.util.ArrayList;
import java.util.LinkedHashMap;
import java.util.List;
import java.util.Map;
import java.util.function.IntUnaryOperator;
import java.util.function.Supplier;
import java.util.function.ToIntFunction;

/** What the tests of the document's boundary cases share. Each one quotes the words that name its case. */
abstract class Edges {
    static final int LEAST = Integer.MIN_VALUE, MOST = Integer.MAX_VALUE;
    static final int NO_SUCH = -1, BAD_VALUE = -2, BAD_TEXT = -3, TOO_MANY = -4, NOT_POSSIBLE = -5, NONE = -6;
    static final int SLACK = 0, PULL = 1, WEAR = 2;

    private static final Map<String, List<String>> QUOTED = new LinkedHashMap<>();
    private static String head = "";

    /** The words that are quoted, under the heads of the document. */
    static Map<String, List<String>> quoted() {
        return QUOTED;
    }

    /** The head of the document under which the next words stand. */
    static void head(String words) {
        head = words;
        QUOTED.putIfAbsent(head, new ArrayList<>());
    }

    static void edge(String words, String edgeCase, Runnable test) {
        QUOTED.get(head).add(words);
        Check.test(head + ": \"" + words + "\": " + edgeCase, test);
    }

    /** A range of an argument, and the error that is due outside it. */
    record Range(String what, int least, int most, int error) {
        /** Six tests; what is due at both ends is told, as it differs from call to call. */
        void edges(String words, int dueAtLeast, int dueAtMost, IntUnaryOperator call) {
            row(words, "is the least one, " + least, least, dueAtLeast, call);
            row(words, "is the greatest one, " + most, most, dueAtMost, call);
            row(words, "is too small by 1", least - 1, error, call);
            row(words, "is too large by 1", most + 1, error, call);
            row(words, "is far too small", LEAST, error, call);
            row(words, "is far too large", MOST, error, call);
        }

        private void row(String words, String which, int value, int due, IntUnaryOperator call) {
            edge(words, what + " " + which, () -> due(due, call.applyAsInt(value)));
        }
    }

    /** A refused call: its error is due, and all that there is must be as in a shop in which it was not made. */
    static void refused(String call, int error, Supplier<RollerMesh> shop, ToIntFunction<RollerMesh> refused) {
        edge("A call that returns an error changes nothing.", call, () -> {
            RollerMesh called = shop.get();
            due(error, refused.applyAsInt(called));
            same(Shops.deepLooks(shop.get()), Shops.deepLooks(called));
        });
    }

    /** A call that is no change: it returns no error, and leaves all that there is. */
    static void harmless(String words, String call, Supplier<RollerMesh> shop, ToIntFunction<RollerMesh> harmless) {
        edge(words, call + " changes nothing", () -> {
            RollerMesh called = shop.get();
            int answer = harmless.applyAsInt(called);
            due("it is no error", 1, answer >= 0 || answer == NONE ? 1 : 0);
            same(Shops.deepLooks(shop.get()), Shops.deepLooks(called));
        });
    }

    /** A change with a full history: it stays full, and the change is undone alone. */
    static void isChange(ToIntFunction<RollerMesh> change) {
        edge("This is a change.", "it is undone, with a full history", () -> {
            RollerMesh shop = used();
            String before = Shops.looks(shop);
            int answer = change.applyAsInt(shop);
            due("it is no error", 1, answer >= 0 ? 1 : 0);
            due("the history", 6, shop.count(10));
            due("undo", 5, shop.undo());
            same(before, Shops.looks(shop));
        });
    }

    /** A test that the text on the pad of a new object has its fault there. */
    static void fault(String words, String text, int due) {
        edge(words, "the fault of '" + text + "' is " + due, () -> due(due, written(text).fault()));
    }

    static void due(int want, int got) {
        Check.due("the call", want, got);
    }

    static void due(String what, int want, int got) {
        Check.due(what, want, got);
    }

    static void same(String want, String got) {
        Check.dueText("the state", want, got);
    }

    static RollerMesh fresh() {
        return new RollerMesh();
    }

    static RollerMesh shop(int[]... rollers) {
        return Shops.withRollers(rollers);
    }

    static int[] teeth(int... heights) {
        return heights;
    }

    /** Rollers with that many teeth, all of the height 0. */
    static RollerMesh flat(int... numbers) {
        RollerMesh shop = fresh();
        for (int number : numbers) {
            shop.roller(number, 0);
        }
        return shop;
    }

    static RollerMesh eightRollers() {
        return flat(2, 2, 2, 2, 2, 2, 2, 2);
    }

    static RollerMesh written(String text) {
        RollerMesh shop = fresh();
        Shops.write(shop, text);
        return shop;
    }

    /** A shop in which everything has been used: a full history, worn rollers, the slot 0, and the pad. */
    static RollerMesh used() {
        RollerMesh shop = shop(teeth(3, -2), teeth(1, 0, 2));
        shop.set(SLACK, 30);
        shop.set(PULL, 9);
        shop.set(WEAR, 2);
        shop.run(0, 1, 0, 9, 2, 2);
        shop.save(0);
        shop.card(7, 6);
        shop.melt(0);
        shop.restore(0);
        Shops.write(shop, "f0.0=7;m1");
        return shop;
    }

    /** A shop in which the history is empty, but for that as used. */
    static RollerMesh undone() {
        RollerMesh shop = used();
        while (shop.count(10) > 0) {
            shop.undo();
        }
        return shop;
    }

    static String repeated(String text, int times) {
        return text.repeat(times);
    }
}
