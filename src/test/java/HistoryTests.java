/** Promises 20 to 22: undo, saving. */
final class HistoryTests {
    private static final int LEAST = Integer.MIN_VALUE;
    private static final int MOST = Integer.MAX_VALUE;

    private HistoryTests() {
    }

    static void add() {
        Check.test("promise 20: undo, each change", HistoryTests::undoEach);
        Check.test("promise 20: undo, at most 6", HistoryTests::undoSix);
        Check.test("promise 20: undo, no change", HistoryTests::undoOfNoChange);
        Check.test("promise 20: undo, what it leaves", HistoryTests::undoLeaves);
        Check.test("promise 21: save", HistoryTests::save);
        Check.test("promise 22: restore", HistoryTests::restore);
        Check.test("promise 22: restore is a change", HistoryTests::restoreIsAChange);
    }

    private static void undoEach() {
        RollerMesh x = Shops.withRollers(Shops.teeth(1, 2, 3), Shops.teeth(0, 0));
        x.save(0);
        x.set(RollerMesh.WEAR, 1);
        String before = Shops.looks(x);
        for (int change = 0; change < 8; change++) {
            int history = Math.min(6, x.count(10) + 1);
            Check.due("change " + change + " is none that fails", 1, change(x, change) >= 0 ? 1 : 0);
            Check.due("history of change " + change, history, x.count(10));
            Check.due("undo of change " + change, history - 1, x.undo());
            Check.dueText("state after undo of change " + change, before, Shops.looks(x));
        }
    }

    private static int change(RollerMesh x, int change) {
        switch (change) {
            case 0:
                return x.set(RollerMesh.PULL, 9);
            case 1:
                return x.roller(4, 4);
            case 2:
                return x.file(0, 1, -3);
            case 3:
                return x.melt(0);
            case 4:
                return x.card(2, 3);
            case 5:
                return x.run(0, 1, 0, 5, 9, 9);
            case 6:
                return Shops.obey(x, "m0;m0;+1,1;+2,2;r0/1@0_9:9*9");
            default:
                return x.restore(0);
        }
    }

    private static void undoSix() {
        RollerMesh x = Shops.fresh();
        Check.due("nothing to undo", -5, x.undo());
        for (int thickness = 10; thickness <= 18; thickness++) {
            x.card(thickness, 1);
            Check.due("history", Math.min(6, thickness - 9), x.count(10));
        }
        for (int left = 5; left >= 0; left--) {
            Check.due("undo", left, x.undo());
            Check.due("history", left, x.count(10));
            Check.due("the card", 12 + left, x.count(1));
        }
        Check.due("no more", -5, x.undo());
        Check.due("the card stays", 12, x.count(1));
        x.card(20, 1);
        x.card(21, 1);
        Check.due("undo of new changes", 1, x.undo());
        Check.due("the card", 20, x.count(1));
        x.card(22, 1);
        Check.due("undo", 1, x.undo());
        Check.due("undo", 0, x.undo());
        Check.due("the card of before", 12, x.count(1));
    }

    /** What is no change, and what fails, records nothing, even if the history is full. */
    private static void undoOfNoChange() {
        RollerMesh x = Shops.fresh();
        x.roller(2, 0);
        x.roller(2, 0);
        for (int thickness = 10; thickness <= 15; thickness++) {
            x.card(thickness, 1);
        }
        Shops.write(x, "m");
        int[] errors = {x.set(3, 0), x.roller(1, 0), x.file(0, 2, 0), x.melt(2), x.card(0, 0),
            x.run(0, 1, 0, 0, 1, 1), x.carryOut(), x.restore(0), x.restore(2), x.save(2), x.put(0)};
        int[] due = {-2, -2, -1, -1, -2, -5, -3, -5, -2, -2, -2};
        for (int call = 0; call < due.length; call++) {
            Check.due("wrong call " + call, due[call], errors[call]);
        }
        x.save(1);
        x.wipe();
        x.fault();
        for (int left = 5; left >= 0; left--) {
            Check.due("undo", left, x.undo());
        }
        Check.due("the card at first", 5, x.count(1));
        Check.due("no more", -5, x.undo());
        x.card(5, 5);
        Check.due("a change that changes nothing is one", 1, x.count(10));
    }

    private static void undoLeaves() {
        RollerMesh x = Shops.fresh();
        x.card(9, 9);
        Shops.write(x, "m1;m2");
        x.save(1);
        Check.due("undo", 0, x.undo());
        Check.due("the pad", 5, x.count(9));
        Check.due("the card", 5, x.count(1));
        Check.due("the slot", 0, x.restore(1));
        Check.due("the card of the slot", 9, x.count(1));
        Check.due("undo of that", 0, x.undo());
        Check.due("the card again", 5, x.count(1));
    }

    private static void save() {
        RollerMesh x = Shops.fresh();
        Check.due("no rollers", 0, x.save(0));
        x.roller(3, 1);
        x.roller(3, 2);
        Check.due("two rollers", 2, x.save(1));
        Check.due("it is no change", 2, x.count(10));
        for (int slot : new int[] {-1, 2, 32, LEAST, MOST}) {
            Check.due("save(" + slot + ")", -2, x.save(slot));
        }
        x.melt(0);
        Check.due("overwritten", 1, x.save(1));
        x.melt(0);
        Check.due("the slot 1", 1, x.restore(1));
        Check.dueText("its roller", "2,2,2", Shops.heights(x, 0));
        Check.due("the slot 0", 0, x.restore(0));
    }

    private static void restore() {
        RollerMesh x = Shops.withRollers(Shops.teeth(1, 2, 3), Shops.teeth(1, 1));
        for (int slot : new int[] {-1, 2, 32, LEAST, MOST}) {
            Check.due("restore(" + slot + ")", -2, x.restore(slot));
        }
        x.set(RollerMesh.SLACK, 7);
        x.set(RollerMesh.PULL, 8);
        x.set(RollerMesh.WEAR, 2);
        x.card(3, 2);
        x.run(0, 1, 0, 6, 5, 1);
        String before = Shops.looks(x);
        x.save(1);
        Check.due("the other slot is empty", -5, x.restore(0));
        for (int change = 0; change < 7; change++) {
            change(x, change);
        }
        Shops.write(x, "m1");
        Check.due("restore", 2, x.restore(1));
        Check.dueText("all is back", before, Shops.looks(x));
        Check.due("the pad stays", 2, x.count(9));
        x.file(0, 0, -9);
        Check.due("the slot keeps it", 2, x.restore(1));
        Check.dueText("all is back again", before, Shops.looks(x));
    }

    private static void restoreIsAChange() {
        RollerMesh x = Shops.fresh();
        x.save(0);
        x.roller(2, 5);
        Check.due("restore", 0, x.restore(0));
        Check.due("history", 2, x.count(10));
        Check.due("undo", 1, x.undo());
        Check.dueText("the roller is back", "5,5", Shops.heights(x, 0));
        Check.due("undo", 0, x.undo());
        Check.due("none is there", 0, x.count(0));
        x.restore(0);
        Check.due("restoring the same is a change, too", 1, x.count(10));
    }
}
