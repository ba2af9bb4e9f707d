import java.util.function.ToIntFunction;

/** The boundary cases of undo and of saved states: promises 20 to 22. */
final class HistoryEdges extends Edges {
    private static final Range SLOT = new Range("the slot", 0, 1, BAD_VALUE);

    private HistoryEdges() {
    }

    static void add() {
        undo();
        undoLeaves();
        atMostSix();
        records();
        recordsNothing();
        save();
        saveLeaves();
        restore();
        restoreIsAChange();
    }

    /** A shop that had the cards of the thickness 1, 2, 3 and so on, one by each change. */
    private static RollerMesh cards(int changes) {
        RollerMesh x = fresh();
        for (int change = 1; change <= changes; change++) {
            x.card(change, 0);
        }
        return x;
    }

    private static void undoTimes(RollerMesh x, int times) {
        for (int time = 0; time < times; time++) {
            x.undo();
        }
    }

    private static void undo() {
        head("Promise 20: undo");
        edge("NOT_POSSIBLE if there is none", "of a new object", () -> due(NOT_POSSIBLE, fresh().undo()));
        edge("NOT_POSSIBLE if there is none", "after the only one was undone", () -> {
            RollerMesh x = cards(1);
            x.undo();
            due(NOT_POSSIBLE, x.undo());
        });
        edge("NOT_POSSIBLE if there is none", "after 6 of 9 were undone", () -> {
            RollerMesh x = cards(9);
            undoTimes(x, 6);
            due(NOT_POSSIBLE, x.undo());
        });
        edge("NOT_POSSIBLE if there is none", "twice", () -> {
            RollerMesh x = fresh();
            x.undo();
            due(NOT_POSSIBLE, x.undo());
        });
        edge("NOT_POSSIBLE if there is none", "then a change can be undone again", () -> {
            RollerMesh x = fresh();
            x.undo();
            x.card(1, 1);
            due("undo", 0, x.undo());
            due("the card", 5, x.count(1));
        });
        edge("Returns how many changes can be undone then", "of 1", () -> due(0, cards(1).undo()));
        edge("Returns how many changes can be undone then", "of 6", () -> due(5, cards(6).undo()));
        edge("Returns how many changes can be undone then", "of 7", () -> due(5, cards(7).undo()));
        edge("Undoes the latest change", "the first one there was", () -> {
            RollerMesh x = cards(1);
            x.undo();
            due(5, x.count(1));
        });
        edge("Undoes the latest change", "an undo is not undone", () -> {
            RollerMesh x = cards(2);
            x.undo();
            x.undo();
            due(5, x.count(1));
        });
        edge("Undoes the latest change", "a change behind an undo", () -> {
            RollerMesh x = cards(2);
            x.undo();
            x.card(20, 0);
            x.undo();
            due(1, x.count(1));
        });
    }

    private static void undoLeaves() {
        String words = "everything except the pad, the slots and the history is as it was before it";
        edge(words, "all of it", () -> {
            RollerMesh x = used();
            String before = Shops.looks(x);
            x.run(0, 1, 0, 9, 9, 9);
            x.undo();
            same(before, Shops.looks(x));
        });
        edge(words, "a melted roller with its steps and its wear", () -> {
            RollerMesh x = flat(2, 3);
            x.set(WEAR, 1);
            x.run(0, 1, 0, 30, 1, 2);
            x.melt(1);
            x.melt(0);
            undoTimes(x, 2);
            same("0 1 2 0", x.of(0, 5) + " " + x.of(0, 6) + " " + x.of(1, 5) + " " + x.of(1, 6));
        });
        edge(words, "the pad stays, written since", () -> {
            RollerMesh x = cards(1);
            Shops.write(x, "m0");
            x.undo();
            due(NONE, x.fault());
        });
        edge(words, "the pad stays, wiped since", () -> {
            RollerMesh x = written("m0");
            x.card(1, 1);
            x.wipe();
            x.undo();
            due(0, x.count(9));
        });
        edge(words, "a slot stays that was saved since", () -> {
            RollerMesh x = cards(9);
            x.save(1);
            x.undo();
            x.restore(1);
            due(9, x.count(1));
        });
        edge(words, "a slot stays empty", () -> {
            RollerMesh x = cards(2);
            x.undo();
            due(NOT_POSSIBLE, x.restore(0));
        });
        edge(words, "the history is shorter by one", () -> {
            RollerMesh x = cards(4);
            x.undo();
            due(3, x.count(10));
        });
    }

    private static void atMostSix() {
        String most = "A history of at most 6 states is kept";
        edge(most, "after 5 changes", () -> due(5, cards(5).count(10)));
        edge(most, "after 6 changes", () -> due(6, cards(6).count(10)));
        edge(most, "after 7 changes", () -> due(6, cards(7).count(10)));
        edge(most, "after 30 changes", () -> due(6, cards(30).count(10)));
        edge(most, "6 of 6 are undone", () -> {
            RollerMesh x = cards(6);
            undoTimes(x, 6);
            due(5, x.count(1));
        });
        String dropped = "when one more is recorded, the oldest one is dropped";
        edge(dropped, "of 7", () -> {
            RollerMesh x = cards(7);
            undoTimes(x, 6);
            due(1, x.count(1));
        });
        edge(dropped, "of 8", () -> {
            RollerMesh x = cards(8);
            undoTimes(x, 6);
            due(2, x.count(1));
        });
        edge(dropped, "of 30", () -> {
            RollerMesh x = cards(30);
            undoTimes(x, 6);
            due(24, x.count(1));
        });
        edge(dropped, "each of those that are kept", () -> {
            RollerMesh x = cards(20);
            for (int card = 19; card >= 14; card--) {
                x.undo();
                due("the card", card, x.count(1));
            }
        });
        edge(dropped, "not if some were undone ahead of it", () -> {
            RollerMesh x = cards(6);
            undoTimes(x, 2);
            x.card(20, 0);
            x.card(21, 0);
            undoTimes(x, 6);
            due(5, x.count(1));
        });
        edge(dropped, "not by a change that is refused", () -> {
            RollerMesh x = cards(6);
            x.card(31, 0);
            undoTimes(x, 6);
            due(5, x.count(1));
        });
    }

    /** A call that is a change, made with an empty history: 1 can be undone then. */
    private static void recorded(String words, String call, ToIntFunction<RollerMesh> change) {
        edge(words, call, () -> {
            RollerMesh x = undone();
            String before = Shops.looks(x);
            int answer = change.applyAsInt(x);
            due("it is no error", 1, answer >= 0 ? 1 : 0);
            due("recorded", 1, x.count(10));
            due("undo", 0, x.undo());
            same(before, Shops.looks(x));
        });
    }

    private static void records() {
        String words = "each method that is a change, and returns no error, records the state before it";
        recorded(words, "set", x -> x.set(PULL, 30));
        recorded(words, "roller", x -> x.roller(24, 9));
        recorded(words, "file", x -> x.file(1, 2, -9));
        recorded(words, "melt", x -> x.melt(0));
        recorded(words, "card", x -> x.card(30, 30));
        recorded(words, "run", x -> x.run(0, 1, 0, 30, 99, 99));
        recorded(words, "carryOut", x -> Shops.obey(x, "m0;+1,1;f1.1=9;r0/1@0_30:9*9"));
        recorded(words, "restore", x -> x.restore(0));
        String same = "(also if nothing is different then)";
        recorded(same, "set to the value of before", x -> x.set(SLACK, x.count(6)));
        recorded(same, "file to the height of before", x -> x.file(0, 0, x.tooth(0, 0) - 9));
        recorded(same, "the card of before", x -> x.card(x.count(1), x.count(2)));
        recorded(same, "restore of what was just saved", x -> x.save(1) + x.restore(1));
        recorded(same, "carryOut of which no order is right", x -> Shops.obey(x, "m9"));
        recorded(same, "carryOut that comes back to where it was", x -> Shops.obey(x, "+1,1;m2"));
        String texts = "An order of a text records nothing by itself.";
        edge(texts, "3 orders are one change", () -> {
            RollerMesh x = undone();
            Shops.obey(x, "m0;m0;+1,1");
            due(1, x.count(10));
        });
        edge(texts, "an order that fails is none more", () -> {
            RollerMesh x = undone();
            Shops.obey(x, "m0;m9");
            due(1, x.count(10));
        });
        edge(texts, "7 orders drop but one state", () -> {
            RollerMesh x = cards(6);
            Shops.obey(x, "+1,1;m0;+1,1;m0;+1,1;m0;+1,1");
            undoTimes(x, 6);
            due(1, x.count(1));
        });
    }

    private static void recordsNothing() {
        String words = "each method that is a change, and returns no error, records the state before it";
        String[] calls = {"put", "wipe", "fault", "save", "of", "tooth", "count", "pair", "why", "leastGap", "bestOffset",
            "thickest"};
        for (int call = 0; call < calls.length; call++) {
            int number = call;
            edge(words, calls[call] + " is no change", () -> {
                RollerMesh x = undone();
                look(x, number);
                due(0, x.count(10));
            });
        }
        edge(words, "a change that is refused", () -> {
            RollerMesh x = undone();
            x.melt(9);
            x.card(0, 0);
            x.roller(0, 0);
            due(0, x.count(10));
        });
        edge(words, "an undo", () -> {
            RollerMesh x = cards(2);
            x.undo();
            due(1, x.count(10));
        });
    }

    private static int look(RollerMesh x, int call) {
        switch (call) {
            case 0:
                return x.put('m');
            case 1:
                return x.wipe();
            case 2:
                return x.fault();
            case 3:
                return x.save(0);
            case 4:
                return x.of(0, 0);
            case 5:
                return x.tooth(0, 0);
            case 6:
                return x.count(0);
            case 7:
                return x.pair(0, 1, 0, 9, 0);
            case 8:
                return x.why(0, 1, 0, 9, 0);
            case 9:
                return x.leastGap(0, 1, 0);
            case 10:
                return x.bestOffset(0, 1, 0);
            default:
                return x.thickest(0, 1, 0, 9);
        }
    }

    private static void save() {
        head("Promise 21: save");
        SLOT.edges("BAD_VALUE if there is no such slot", 2, 2, slot -> flat(2, 2).save(slot));
        edge("`slot`: 0 or 1", "32, which is 0 in 5 bits", () -> due(BAD_VALUE, fresh().save(32)));
        edge("Returns how many rollers there are", "none", () -> due(0, fresh().save(1)));
        edge("Returns how many rollers there are", "8", () -> due(8, eightRollers().save(1)));
        String words = "and overwrites what was saved there";
        edge(words, "the same slot", () -> {
            RollerMesh x = cards(1);
            x.save(0);
            x.card(2, 0);
            x.save(0);
            x.card(3, 0);
            x.restore(0);
            due(2, x.count(1));
        });
        edge(words, "not the other slot", () -> {
            RollerMesh x = cards(1);
            x.save(0);
            x.card(2, 0);
            x.save(1);
            x.restore(0);
            due(1, x.count(1));
        });
        edge(words, "with fewer rollers", () -> {
            RollerMesh x = eightRollers();
            x.save(0);
            x.melt(0);
            x.save(0);
            x.roller(2, 0);
            due(7, x.restore(0));
        });
    }

    private static void saveLeaves() {
        String words = "Saves everything except the pad, the history and the slots in a slot";
        edge(words, "it comes back whole", () -> {
            RollerMesh x = used();
            String before = Shops.looks(x);
            x.save(1);
            Shops.obey(x, "m0;m0;+9,9;+8,8,8;r0/1@0_30:9*9");
            x.restore(1);
            same(before, Shops.looks(x));
        });
        edge(words, "not the pad", () -> {
            RollerMesh x = written("m0");
            x.save(0);
            x.wipe();
            x.restore(0);
            due(0, x.count(9));
        });
        edge(words, "not the history", () -> {
            RollerMesh x = cards(4);
            x.save(0);
            undoTimes(x, 4);
            x.restore(0);
            due("one change, the restore", 1, x.count(10));
        });
        edge(words, "not the slots", () -> {
            RollerMesh x = cards(1);
            x.save(0);
            x.card(2, 0);
            x.save(1);
            x.card(3, 0);
            x.save(0);
            x.restore(1);
            x.restore(0);
            due(3, x.count(1));
        });
        edge(words, "8 rollers of 24 teeth", () -> {
            RollerMesh x = flat(24, 24, 24, 24, 24, 24, 24, 24);
            x.file(7, 23, -9);
            x.save(1);
            x.file(7, 23, 9);
            x.restore(1);
            due(0, x.tooth(7, 23));
        });
        edge(words, "it is no change", () -> {
            RollerMesh x = fresh();
            x.save(0);
            due(0, x.count(10));
        });
    }

    private static void restore() {
        head("Promise 22: restore");
        SLOT.edges("BAD_VALUE if there is no such slot", 2, 2, slot -> savedInBoth().restore(slot));
        edge("`slot`: 0 or 1", "32, which is 0 in 5 bits", () -> due(BAD_VALUE, savedInBoth().restore(32)));
        String nothing = "NOT_POSSIBLE if nothing was saved in it";
        edge(nothing, "the slot 0", () -> due(NOT_POSSIBLE, fresh().restore(0)));
        edge(nothing, "the slot 1", () -> due(NOT_POSSIBLE, fresh().restore(1)));
        edge(nothing, "the slot 0, but in the slot 1", () -> {
            RollerMesh x = fresh();
            x.save(1);
            due(NOT_POSSIBLE, x.restore(0));
        });
        edge(nothing, "the slot 1, but in the slot 0", () -> {
            RollerMesh x = fresh();
            x.save(0);
            due(NOT_POSSIBLE, x.restore(1));
        });
        edge(nothing, "a shop without rollers was saved", () -> {
            RollerMesh x = fresh();
            x.save(0);
            due(0, x.restore(0));
        });
        edge(nothing, "by another object", () -> {
            fresh().save(0);
            due(NOT_POSSIBLE, fresh().restore(0));
        });
        String last = "Restores what was saved last in a slot";
        edge(last, "saved twice", () -> {
            RollerMesh x = cards(1);
            x.save(1);
            x.card(2, 0);
            x.save(1);
            x.card(3, 0);
            x.restore(1);
            due(2, x.count(1));
        });
        edge(last, "not what another save was refused for", () -> {
            RollerMesh x = cards(1);
            x.save(1);
            x.card(2, 0);
            x.save(2);
            x.restore(1);
            due(1, x.count(1));
        });
    }

    private static RollerMesh savedInBoth() {
        RollerMesh x = flat(2, 2);
        x.save(0);
        x.save(1);
        return x;
    }

    private static void restoreIsAChange() {
        edge("which keeps it", "twice", () -> {
            RollerMesh x = cards(1);
            x.save(0);
            x.restore(0);
            x.card(9, 0);
            x.restore(0);
            due(1, x.count(1));
        });
        edge("which keeps it", "what is changed then is not changed in it", () -> {
            RollerMesh x = flat(2, 2);
            x.save(0);
            x.restore(0);
            x.file(0, 0, 9);
            x.melt(1);
            x.restore(0);
            same("0,0 0,0", Shops.heights(x, 0) + " " + Shops.heights(x, 1));
        });
        edge("which keeps it", "after an undo of the restore", () -> {
            RollerMesh x = cards(1);
            x.save(0);
            x.card(9, 0);
            x.restore(0);
            x.undo();
            x.restore(0);
            due(1, x.count(1));
        });
        edge("This is a change.", "it is recorded", () -> {
            RollerMesh x = fresh();
            x.save(0);
            x.restore(0);
            due(1, x.count(10));
        });
        edge("This is a change.", "it is undone", () -> {
            RollerMesh x = fresh();
            x.save(0);
            x.roller(2, 7);
            x.restore(0);
            x.undo();
            same("7,7", Shops.heights(x, 0));
        });
        edge("This is a change.", "the seventh drops the oldest state", () -> {
            RollerMesh x = cards(6);
            x.save(0);
            x.restore(0);
            undoTimes(x, 6);
            due(1, x.count(1));
        });
        edge("Returns how many rollers there are then", "none, of 8", () -> {
            RollerMesh x = fresh();
            x.save(0);
            for (int roller = 0; roller < 8; roller++) {
                x.roller(2, 0);
            }
            due(0, x.restore(0));
        });
        edge("Returns how many rollers there are then", "8, of none", () -> {
            RollerMesh x = eightRollers();
            x.save(0);
            for (int roller = 0; roller < 8; roller++) {
                x.melt(0);
            }
            due(8, x.restore(0));
        });
    }
}
