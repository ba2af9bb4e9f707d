/** Promises 1 to 7: a new object, and the changes. */
final class ChangeTests {
    private static final int LEAST = Integer.MIN_VALUE;
    private static final int MOST = Integer.MAX_VALUE;

    private ChangeTests() {
    }

    static void add() {
        Check.test("promise 1: a new object", ChangeTests::newObject);
        Check.test("promise 2: set", ChangeTests::set);
        Check.test("promise 2: set, wrong", ChangeTests::setWrong);
        Check.test("promise 3: roller", ChangeTests::roller);
        Check.test("promise 3: roller, wrong", ChangeTests::rollerWrong);
        Check.test("promise 4: file", ChangeTests::file);
        Check.test("promise 4: file, wrong", ChangeTests::fileWrong);
        Check.test("promise 5: melt", ChangeTests::melt);
        Check.test("promise 5: melt takes wear along", ChangeTests::meltMovesWear);
        Check.test("promise 6: card", ChangeTests::card);
        Check.test("promise 7: run, cards by strength", ChangeTests::runStrength);
        Check.test("promise 7: run, cards by pull", ChangeTests::runPull);
        Check.test("promise 7: run, a card begins where the last one ended", ChangeTests::runBegins);
        Check.test("promise 7: run, wear", ChangeTests::runWear);
        Check.test("promise 7: run, wear comes at the end", ChangeTests::runWearAtEnd);
        Check.test("promise 7: run, wear counts steps since it was worn", ChangeTests::runWearCounts);
        Check.test("promise 7: run, what meshes", ChangeTests::runMeshes);
        Check.test("promise 7: run, wrong", ChangeTests::runWrong);
    }

    private static void newObject() {
        RollerMesh x = Shops.fresh();
        int[] first = {0, 5, 5, 0, 0, 0, 6, 4, 20, 0, 0};
        for (int what = 0; what < first.length; what++) {
            Check.due("count(" + what + ")", first[what], x.count(what));
        }
        Check.due("of", -1, x.of(0, 0));
        Check.due("undo", -5, x.undo());
        Check.due("restore 0", -5, x.restore(0));
        Check.due("restore 1", -5, x.restore(1));
        Check.due("fault", 0, x.fault());
        Shops.addRoller(x, 1, 2, 3);
        x.card(7, 8);
        Shops.write(x, "m1");
        Check.dueText("another object", "0 5 5 0 0 0 6 4 20  pad 0 history 0", Shops.allLooks(Shops.fresh()));
    }

    private static void set() {
        RollerMesh x = Shops.fresh();
        Check.due("slack", 6, x.set(RollerMesh.SLACK, 0));
        Check.due("slack again", 0, x.set(RollerMesh.SLACK, 30));
        Check.due("slack the same", 30, x.set(RollerMesh.SLACK, 30));
        Check.due("pull", 4, x.set(RollerMesh.PULL, 30));
        Check.due("pull again", 30, x.set(RollerMesh.PULL, 0));
        Check.due("wear", 20, x.set(RollerMesh.WEAR, 99));
        Check.due("wear again", 99, x.set(RollerMesh.WEAR, 1));
        Check.due("count slack", 30, x.count(6));
        Check.due("count pull", 0, x.count(7));
        Check.due("count wear", 1, x.count(8));
        Check.due("it is a change", 6, x.count(10));
    }

    private static void setWrong() {
        RollerMesh x = Shops.fresh();
        int[][] wrong = {{-1, 5}, {3, 5}, {LEAST, 5}, {MOST, 5}, {0, -1}, {0, 31}, {1, -1}, {1, 31}, {2, 0},
            {2, 100}, {0, LEAST}, {1, MOST}, {2, MOST}, {2, LEAST}};
        for (int[] call : wrong) {
            Check.due("set(" + call[0] + ", " + call[1] + ")", -2, x.set(call[0], call[1]));
        }
        Check.dueText("nothing changed", "0 5 5 0 0 0 6 4 20  pad 0 history 0", Shops.allLooks(x));
    }

    private static void roller() {
        RollerMesh x = Shops.fresh();
        Check.due("the first", 0, x.roller(2, 9));
        Check.due("the second", 1, x.roller(24, -9));
        Check.due("the third", 2, x.roller(3, 0));
        Check.dueText("its teeth", "9,9", Shops.heights(x, 0));
        Check.due("the teeth of the second", 24, x.of(1, 0));
        Check.due("its last tooth", 0, x.tooth(1, 23));
        Check.dueText("the teeth of the third", "0,0,0", Shops.heights(x, 2));
        Check.due("the history", 3, x.count(10));
        for (int more = 3; more < 8; more++) {
            Check.due("one more", more, x.roller(2, more));
        }
        Check.due("the ninth", -4, x.roller(2, 0));
        Check.due("rollers", 8, x.count(0));
        Check.due("melt", 7, x.melt(0));
        Check.due("the eighth again", 7, x.roller(4, 1));
        Check.dueText("its teeth", "1,1,1,1", Shops.heights(x, 7));
    }

    private static void rollerWrong() {
        RollerMesh x = Shops.fresh();
        int[][] wrong = {{1, 0}, {0, 0}, {25, 0}, {-2, 0}, {2, 10}, {2, -10}, {MOST, 0}, {LEAST, 0}, {2, MOST},
            {2, LEAST}};
        for (int[] call : wrong) {
            Check.due("roller(" + call[0] + ", " + call[1] + ")", -2, x.roller(call[0], call[1]));
        }
        Check.dueText("nothing changed", "0 5 5 0 0 0 6 4 20  pad 0 history 0", Shops.allLooks(x));
        for (int roller = 0; roller < 8; roller++) {
            x.roller(2, 0);
        }
        Check.due("a bad value is checked ahead of too many", -2, x.roller(1, 0));
        Check.due("a bad height, too", -2, x.roller(2, 10));
        Check.due("too many", -4, x.roller(2, 0));
        Check.due("too many is no change", 6, x.count(10));
        x.undo();
        Check.due("undone is the eighth", 7, x.count(0));
    }

    private static void file() {
        RollerMesh x = Shops.withRollers(Shops.teeth(1, 2, 3), Shops.teeth(4, 5));
        Check.due("the first tooth", 10, x.file(0, 0, -9));
        Check.due("the first tooth again", 0, x.file(0, 0, 9));
        Check.due("the last tooth", 12, x.file(0, 2, 0));
        Check.due("the other roller", 14, x.file(1, 1, -1));
        Check.due("the same height", 8, x.file(1, 1, -1));
        Check.dueText("roller 0", "9,2,0", Shops.heights(x, 0));
        Check.dueText("roller 1", "4,-1", Shops.heights(x, 1));
        Check.due("it is a change", 6, x.count(10));
        x.undo();
        x.undo();
        Check.dueText("undone", "4,5", Shops.heights(x, 1));
    }

    private static void fileWrong() {
        RollerMesh x = Shops.withRollers(Shops.teeth(1, 2, 3), Shops.teeth(4, 5));
        String before = Shops.allLooks(x);
        int[][] noSuch = {{-1, 0}, {2, 0}, {8, 0}, {LEAST, 0}, {MOST, 0}, {0, -1}, {0, 3}, {0, 24}, {1, 2},
            {1, LEAST}, {1, MOST}};
        for (int[] call : noSuch) {
            Check.due("file(" + call[0] + ", " + call[1] + ", 0)", -1, x.file(call[0], call[1], 0));
            Check.due("file with a bad height, too", -1, x.file(call[0], call[1], 10));
        }
        for (int height : new int[] {10, -10, LEAST, MOST}) {
            Check.due("file(0, 2, " + height + ")", -2, x.file(0, 2, height));
        }
        Check.dueText("nothing changed", before, Shops.allLooks(x));
    }

    private static void melt() {
        RollerMesh x = Shops.withRollers(Shops.teeth(1, 1), Shops.teeth(2, 2, 2), Shops.teeth(3, 3, 3, 3));
        for (int wrong : new int[] {-1, 3, 8, LEAST, MOST}) {
            Check.due("melt(" + wrong + ")", -1, x.melt(wrong));
        }
        Check.due("melt in the middle", 2, x.melt(1));
        Check.dueText("roller 0 stays", "1,1", Shops.heights(x, 0));
        Check.dueText("roller 2 moves up", "3,3,3,3", Shops.heights(x, 1));
        Check.due("there is no third", -1, x.of(2, 0));
        Check.due("a new one comes behind", 2, x.roller(2, 5));
        Check.due("melt the last", 2, x.melt(2));
        Check.due("melt the first", 1, x.melt(0));
        Check.dueText("the last one is the first", "3,3,3,3", Shops.heights(x, 0));
        Check.due("melt it", 0, x.melt(0));
        Check.due("none is there", -1, x.melt(0));
        Check.due("undo", 5, x.undo());
        Check.dueText("it is back", "3,3,3,3", Shops.heights(x, 0));
    }

    private static void meltMovesWear() {
        RollerMesh x = Shops.withRollers(Shops.teeth(0, 0), Shops.teeth(0, 0, 0), Shops.teeth(0, 0));
        x.set(RollerMesh.WEAR, 1);
        x.run(0, 1, 0, 5, 2, 1);
        Check.due("roller 1 has steps", 2, x.of(1, 5));
        Check.due("roller 0 was worn", 1, x.of(0, 6));
        x.melt(2);
        Check.due("a new roller has no steps", 2, x.roller(3, 0));
        Check.due("its steps", 0, x.of(2, 5));
        x.run(0, 2, 0, 5, 1, 1);
        x.melt(0);
        Check.due("the steps moved up", 2, x.of(0, 5));
        Check.due("the wear moved up", 0, x.of(0, 6));
        Check.due("the steps of the last one", 1, x.of(1, 5));
        x.roller(3, 0);
        Check.due("a new one where the last stood has none", 0, x.of(2, 5));
        x.run(0, 1, 0, 5, 2, 1);
        Check.due("worn", 1, x.of(1, 6));
        x.melt(1);
        x.melt(1);
        x.roller(3, 0);
        Check.due("a new one was never worn", 0, x.of(1, 6));
    }

    private static void card() {
        RollerMesh x = Shops.fresh();
        Check.due("the first card", 5, x.card(1, 0));
        Check.due("the second", 1, x.card(30, 30));
        Check.due("the same", 30, x.card(30, 30));
        Check.due("thickness", 30, x.count(1));
        Check.due("strength", 30, x.count(2));
        Check.due("it is a change", 3, x.count(10));
        int[][] wrong = {{0, 5}, {31, 5}, {-1, 5}, {5, -1}, {5, 31}, {LEAST, 5}, {MOST, 5}, {5, LEAST}, {5, MOST}};
        for (int[] call : wrong) {
            Check.due("card(" + call[0] + ", " + call[1] + ")", -2, x.card(call[0], call[1]));
        }
        Check.dueText("nothing changed", "0 30 30 0 0 0 6 4 20  pad 0 history 3", Shops.allLooks(x));
    }

    private static void runStrength() {
        RollerMesh x = Shops.withRollers(Shops.teeth(0, 0), Shops.teeth(0, 0, 0), Shops.teeth(0, 0));
        Check.due("pressed by 2", 0, x.run(0, 1, 0, 3, 3, 4));
        Check.dueText("counts", "3 5 5 3 0 12 6 4 20 |0,0 12 0|0,0,0 12 0|0,0 0 0", Shops.looks(x));
        x.card(8, 5);
        Check.due("pressed by as much as its strength", 0, x.run(0, 1, 0, 3, 2, 1));
        x.card(9, 5);
        Check.due("pressed by more", 4, x.run(0, 1, 0, 3, 4, 10));
        Check.dueText("a step for each", "3 9 5 9 4 18 6 4 20 |0,0 18 0|0,0,0 18 0|0,0 0 0", Shops.looks(x));
        x.card(3, 0);
        Check.due("no thicker than the press", 0, x.run(1, 2, 0, 3, 99, 1));
        x.card(4, 0);
        Check.due("thicker by 1, without strength", 99, x.run(1, 2, 0, 3, 99, 99));
        Check.due("cards", 207, x.count(3));
        Check.due("torn", 103, x.count(4));
        Check.due("steps", 216, x.count(5));
    }

    private static void runPull() {
        RollerMesh x = Shops.withRollers(Shops.teeth(0, 5), Shops.teeth(0, 0));
        x.card(6, 30);
        Check.due("pulled by 5", 3, x.run(0, 1, 0, 6, 3, 2));
        Check.due("steps", 6, x.count(5));
        Check.due("in its first step a card is not pulled", 0, x.run(0, 1, 0, 6, 4, 1));
        x.set(RollerMesh.PULL, 5);
        Check.due("pulled by no more than PULL", 0, x.run(0, 1, 0, 6, 3, 2));
        x.set(RollerMesh.PULL, 4);
        x.card(5, 30);
        Check.due("a card that is no thicker is pressed by 0, pulled by 4", 0, x.run(0, 1, 0, 6, 3, 5));
        x.card(6, 30);
        Check.due("from high to deep, too", 1, x.run(0, 1, 1, 6, 1, 2));
        x.set(RollerMesh.PULL, 0);
        x.card(1, 30);
        Check.due("without a pull", 0, x.run(0, 1, 0, 6, 2, 9));
    }

    private static void runBegins() {
        RollerMesh x = Shops.withRollers(Shops.teeth(0, 0, 0, 5), Shops.teeth(0, 0));
        x.card(6, 30);
        // Presses 6, 6, 6, 1: cards take the steps 0-2, 3-0 (torn), 1-3 (torn), 0-2, 3-0 (torn).
        Check.due("torn", 3, x.run(0, 1, 0, 6, 5, 3));
        Check.due("steps", 13, x.count(5));
        Check.due("steps of the upper one", 13, x.of(0, 5));
        Check.due("steps of the lower one", 13, x.of(1, 5));
        Check.due("each run begins with the step 0", 0, x.run(0, 1, 0, 6, 1, 3));
        Check.due("by the offset of the lower one", 2, x.run(1, 0, 3, 6, 3, 2));
        // Presses 1, 6, 6, 6: the cards take 0-1 (torn), 2-3, 0-1 (torn).
        Check.due("steps of it", 22, x.count(5));
    }

    private static void runWear() {
        RollerMesh x = Shops.withRollers(Shops.teeth(2, 1, 0, -1), Shops.teeth(9, 8, 9), Shops.teeth(3, 3));
        x.set(RollerMesh.WEAR, 1);
        x.card(1, 0);
        x.run(0, 1, 0, 30, 1, 3);
        Check.dueText("3 steps wear 3 teeth", "3 1 0 1 0 3 6 4 1 |2,1,0,-1 3 0|8,7,8 0 1|3,3 0 0", Shops.looks(x));
        x.run(1, 0, 0, 30, 1, 99);
        Check.dueText("once", "3 1 0 2 0 102 6 4 1 |1,0,0,-1 0 1|7,6,7 0 2|3,3 0 0", Shops.looks(x));
        x.run(0, 2, 0, 30, 1, 4);
        x.run(0, 2, 0, 30, 1, 4);
        Check.dueText("nothing above 0 is left", "0,0,0,-1", Shops.heights(x, 0));
        Check.due("it is worn all the same", 3, x.of(0, 6));
        x.undo();
        Check.due("undone is the wear", 2, x.of(0, 6));
        Check.dueText("and the teeth", "2,2", Shops.heights(x, 2));
    }

    private static void runWearAtEnd() {
        RollerMesh x = Shops.withRollers(Shops.teeth(1, 1), Shops.teeth(0, 0));
        x.set(RollerMesh.WEAR, 1);
        x.card(3, 1);
        // The press is 1 as long as the teeth stand at 1, and 2 when they are worn.
        Check.due("all of the run's cards are pressed by 2", 9, x.run(0, 1, 0, 2, 9, 9));
        Check.due("then by 1", 0, x.run(0, 1, 0, 2, 9, 9));
    }

    private static void runWearCounts() {
        RollerMesh x = Shops.withRollers(Shops.teeth(5, 5), Shops.teeth(5, 5, 5), Shops.teeth(5, 5));
        x.card(1, 30);
        x.set(RollerMesh.WEAR, 3);
        x.run(0, 1, 0, 30, 1, 5);
        Check.due("one step less is not enough", 0, x.of(0, 6));
        x.run(0, 1, 0, 30, 1, 1);
        Check.due("WEAR times its teeth are", 1, x.of(0, 6));
        Check.due("the count begins anew", 0, x.of(0, 5));
        Check.due("more teeth take more steps", 6, x.of(1, 5));
        Check.due("and are not yet worn", 0, x.of(1, 6));
        x.set(RollerMesh.WEAR, 1);
        Check.due("a setting wears nothing", 0, x.of(1, 6));
        x.run(0, 2, 0, 30, 1, 1);
        Check.due("nor does a run of others", 0, x.of(1, 6));
        x.set(RollerMesh.WEAR, 2);
        x.run(1, 2, 0, 30, 1, 1);
        Check.due("but the next run of it", 1, x.of(1, 6));
        Check.due("begins with 0, not with what was over", 0, x.of(1, 5));
        Check.dueText("worn by 1", "4,4,4", Shops.heights(x, 1));
        x.file(1, 0, 9);
        Check.due("a filed roller keeps its count", 2, x.of(2, 5));
    }

    private static void runMeshes() {
        RollerMesh x = Shops.withRollers(Shops.teeth(0, 6), Shops.teeth(0, 0), Shops.teeth(0, 7));
        Check.due("a least press of 1", 0, x.run(0, 1, 0, 7, 1, 1));
        Check.due("a least press of 0", -5, x.run(0, 1, 0, 6, 1, 1));
        Check.due("differs by 7", -5, x.run(2, 1, 0, 30, 1, 1));
        x.set(RollerMesh.SLACK, 7);
        Check.due("with a SLACK of 7", 0, x.run(2, 1, 0, 30, 1, 1));
        Check.due("changes", 6, x.count(10));
        Check.due("cards", 2, x.count(3));
    }

    private static void runWrong() {
        RollerMesh x = Shops.withRollers(Shops.teeth(0, 0), Shops.teeth(0, 0));
        String before = Shops.allLooks(x);
        int[][] noSuch = {{-1, 0}, {0, -1}, {2, 0}, {0, 2}, {8, 8}, {LEAST, 0}, {0, MOST}};
        for (int[] pair : noSuch) {
            Check.due("no such", -1, x.run(pair[0], pair[1], 0, 5, 1, 1));
            Check.due("no such, ahead of bad values", -1, x.run(pair[0], pair[1], 24, 31, 0, 0));
        }
        int[][] bad = {{0, 0, 0, 5, 1, 1}, {1, 1, 0, 5, 1, 1}, {0, 1, -1, 5, 1, 1}, {0, 1, 24, 5, 1, 1},
            {0, 1, 0, -1, 1, 1}, {0, 1, 0, 31, 1, 1}, {0, 1, 0, 5, 0, 1}, {0, 1, 0, 5, 100, 1}, {0, 1, 0, 5, 1, 0},
            {0, 1, 0, 5, 1, 100}, {0, 1, LEAST, 5, 1, 1}, {0, 1, 0, MOST, 1, 1}, {0, 1, 0, 5, LEAST, 1},
            {0, 1, 0, 5, 1, MOST}, {0, 1, 0, 0, 0, 1}, {0, 1, 0, 0, 1, 100}};
        for (int[] call : bad) {
            Check.due("bad value", -2, x.run(call[0], call[1], call[2], call[3], call[4], call[5]));
        }
        Check.due("does not mesh", -5, x.run(0, 1, 0, 0, 1, 1));
        Check.dueText("nothing changed", before, Shops.allLooks(x));
        Check.due("the greatest numbers", 0, x.run(0, 1, 23, 30, 99, 99));
        Check.due("the steps", 9801, x.count(5));
    }
}
