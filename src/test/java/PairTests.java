/** Promises 11 to 15: questions about pairs. */
final class PairTests {
    private static final int LEAST = Integer.MIN_VALUE;
    private static final int MOST = Integer.MAX_VALUE;

    private PairTests() {
    }

    static void add() {
        Check.test("promise 11: pair, the steps of a turn", PairTests::turns);
        Check.test("promise 11: pair, presses", PairTests::presses);
        Check.test("promise 11: pair, a short turn behind a long one", PairTests::shortBehindLong);
        Check.test("promise 11: pair, whether it meshes", PairTests::meshes);
        Check.test("promise 12: why", PairTests::why);
        Check.test("promise 12: why, late in a turn", PairTests::whyLate);
        Check.test("promise 13: leastGap", PairTests::leastGap);
        Check.test("promise 14: bestOffset", PairTests::bestOffset);
        Check.test("promise 14: bestOffset, smooth ones alone", PairTests::bestOffsetSmooth);
        Check.test("promise 14: bestOffset, the edges", PairTests::bestOffsetEdges);
        Check.test("promise 15: thickest", PairTests::thickest);
        Check.test("promise 15: thickest, one turn from the step 0", PairTests::thickestTurn);
        Check.test("promises 11 to 15: wrong", PairTests::wrong);
        Check.test("promises 11 to 15: nothing changes", PairTests::nothingChanges);
    }

    private static void turns() {
        RollerMesh x = Shops.fresh();
        int[] teeth = {2, 3, 4, 6, 12, 23, 24, 24};
        for (int number : teeth) {
            x.roller(number, 0);
        }
        int[][] due = {{0, 1, 6}, {0, 2, 4}, {2, 0, 4}, {2, 3, 12}, {3, 4, 12}, {5, 6, 552}, {6, 5, 552},
            {6, 7, 24}, {4, 6, 24}, {1, 5, 69}};
        for (int[] row : due) {
            Check.due("turn of " + teeth[row[0]] + " and " + teeth[row[1]], row[2], x.pair(row[0], row[1], 5, 5, 0));
        }
    }

    private static void presses() {
        RollerMesh x = Shops.withRollers(Shops.teeth(1, 2, 3), Shops.teeth(0, 0, 5), Shops.teeth(-9, -9),
            Shops.teeth(9, 9), Shops.teeth(9, 9));
        Check.due("least, offset 0: 3 meets 5", 100 - 4, x.pair(0, 1, 0, 4, 1));
        Check.due("greatest, offset 0", 100 + 3, x.pair(0, 1, 0, 4, 2));
        Check.due("least, offset 1: 2 meets 5", 100 - 3, x.pair(0, 1, 1, 4, 1));
        Check.due("least, offset 2: 1 meets 5", 100 - 2, x.pair(0, 1, 2, 4, 1));
        Check.due("greatest, offset 2", 100 + 2, x.pair(0, 1, 2, 4, 2));
        Check.due("offset 3 is as 0", 100 - 4, x.pair(0, 1, 3, 4, 1));
        Check.due("offset 23 is as 2", 100 - 2, x.pair(0, 1, 23, 4, 1));
        Check.due("the other way round, offset 1: 5 meets 1", 100 - 2, x.pair(1, 0, 1, 4, 1));
        Check.due("the other way round, offset 2: 5 meets 2", 100 - 3, x.pair(1, 0, 2, 4, 1));
        Check.due("deep on high", 100, x.pair(2, 3, 0, 0, 1));
        Check.due("the least of all", 82, x.pair(3, 4, 0, 0, 1));
        Check.due("the greatest of all", 148 - 18, x.pair(2, 3, 0, 30, 2));
        x.roller(2, -9);
        Check.due("deep on deep", 148, x.pair(2, 5, 0, 30, 2));
    }

    private static void shortBehindLong() {
        RollerMesh x = Shops.withRollers(Shops.teeth(0, 0), Shops.teeth(0, 0), Shops.teeth(-9, 9, 0), Shops.teeth(9, -9));
        Check.due("a long turn, greatest", 148, x.pair(2, 3, 0, 30, 2));
        Check.due("a short one, greatest", 105, x.pair(0, 1, 0, 5, 2));
        Check.due("a long turn, least", 82, x.pair(2, 3, 0, 0, 1));
        Check.due("a short one, least", 105, x.pair(0, 1, 0, 5, 1));
        Check.due("a short one meshes", 1, x.pair(0, 1, 0, 5, 3));
    }

    private static void meshes() {
        RollerMesh x = Shops.withRollers(Shops.teeth(0, 3, 0), Shops.teeth(0, 0), Shops.teeth(0, 0, 7));
        Check.due("press 1", 1, x.pair(0, 1, 0, 4, 3));
        Check.due("press 0", 0, x.pair(0, 1, 0, 3, 3));
        x.set(RollerMesh.SLACK, 3);
        Check.due("just smooth", 1, x.pair(0, 1, 0, 4, 3));
        x.set(RollerMesh.SLACK, 2);
        Check.due("not smooth", 0, x.pair(0, 1, 0, 4, 3));
        x.set(RollerMesh.SLACK, 0);
        x.roller(5, 4);
        Check.due("all the same", 1, x.pair(1, 3, 0, 30, 3));
        x.set(RollerMesh.SLACK, 6);
        Check.due("the step 0 is measured by the last one", 0, x.pair(2, 1, 0, 30, 3));
    }

    private static void why() {
        RollerMesh x = Shops.withRollers(Shops.teeth(0, 2, 4, 3), Shops.teeth(0, 0));
        Check.due("it meshes", 0, x.why(0, 1, 0, 5, 0));
        Check.due("at no step", -6, x.why(0, 1, 0, 5, 1));
        Check.due("the press is below 1", 1, x.why(0, 1, 0, 4, 0));
        Check.due("in the step 2", 2, x.why(0, 1, 0, 4, 1));
        Check.due("in the step 1 first", 1, x.why(0, 1, 0, 2, 1));
        x.set(RollerMesh.SLACK, 2);
        Check.due("the last step is not the same as the first", 2, x.why(0, 1, 0, 5, 0));
        Check.due("which the step 0 tells", 0, x.why(0, 1, 0, 5, 1));
        Check.due("not smooth comes ahead of low", 2, x.why(0, 1, 0, 4, 0));
        Check.due("as its step does", 0, x.why(0, 1, 0, 4, 1));
        Check.due("a press of 1 is not too low, but not smooth", 2, x.why(0, 1, 0, 1, 0));
        Check.due("both in one step: 1", 1, x.why(0, 1, 0, 0, 0));
        Check.due("the step of both", 0, x.why(0, 1, 0, 0, 1));
        x.file(0, 3, 2);
        Check.due("smooth all round", 0, x.why(0, 1, 0, 5, 0));
        x.file(0, 2, 5);
        Check.due("not smooth in the middle", 2, x.why(0, 1, 0, 9, 0));
        Check.due("at the step 2", 2, x.why(0, 1, 0, 9, 1));
    }

    private static void whyLate() {
        RollerMesh x = Shops.fresh();
        x.roller(24, 0);
        x.roller(23, 0);
        x.file(0, 23, 3);
        x.file(1, 22, 3);
        // Both high teeth meet in the last step of the turn alone, with the offset 0.
        Check.due("reason", 1, x.why(0, 1, 0, 6, 0));
        Check.due("the last step", 551, x.why(0, 1, 0, 6, 1));
        Check.due("one more is enough", 0, x.why(0, 1, 0, 7, 0));
        x.set(RollerMesh.SLACK, 5);
        Check.due("not smooth in the step 0", 0, x.why(0, 1, 0, 7, 1));
        x.set(RollerMesh.SLACK, 6);
        Check.due("with the offset 1", 527, x.why(0, 1, 1, 6, 1));
        Check.due("with the offset 22", 23, x.why(0, 1, 22, 6, 1));
    }

    private static void leastGap() {
        RollerMesh x = Shops.withRollers(Shops.teeth(0, 3), Shops.teeth(0, 2), Shops.teeth(-9, -9),
            Shops.teeth(9, 9), Shops.teeth(9, 9));
        Check.due("high on high", 6, x.leastGap(0, 1, 0));
        Check.due("high on deep", 4, x.leastGap(0, 1, 1));
        Check.due("the greatest there is", 19, x.leastGap(3, 4, 0));
        Check.due("0 is the least", 0, x.leastGap(2, 0, 0));
        Check.due("0 and 1", 1, x.leastGap(2, 3, 0));
        Check.due("a gap of 0 leaves more than a press of 1", 107, x.pair(2, 1, 5, 0, 1));
        Check.due("and there is none below it", 0, x.leastGap(2, 1, 5));
        x.set(RollerMesh.SLACK, 5);
        Check.due("just smooth", 6, x.leastGap(0, 1, 0));
        x.set(RollerMesh.SLACK, 4);
        Check.due("not smooth by any gap", -6, x.leastGap(0, 1, 0));
        Check.due("smooth by another offset", 4, x.leastGap(0, 1, 1));
        x.set(RollerMesh.SLACK, 3);
        int ramp = Shops.addRoller(x, 0, 2, 4, 6);
        int flat = x.roller(2, 0);
        Check.due("the step 0 is measured by the last one", -6, x.leastGap(ramp, flat, 0));
        x.set(RollerMesh.SLACK, 6);
        Check.due("with more slack", 7, x.leastGap(ramp, flat, 0));
    }

    private static void bestOffset() {
        RollerMesh x = Shops.withRollers(Shops.teeth(0, 0, 3), Shops.teeth(3, 0, -3), Shops.teeth(1, 1));
        // The teeth of height 3 meet 3, -3 and 0 with the offsets 1, 0 and 2.
        Check.due("offset", 0, x.bestOffset(0, 1, 0));
        Check.due("gap", 4, x.bestOffset(0, 1, 1));
        x.file(1, 0, 0);
        x.file(1, 1, -3);
        x.file(1, 2, 2);
        // 3 meets 2, 0 and -3 with the offsets 0, 1 and 2.
        Check.due("another offset", 2, x.bestOffset(0, 1, 0));
        Check.due("its gap", 3, x.bestOffset(0, 1, 1));
        Check.due("of several the lowest", 0, x.bestOffset(0, 2, 0));
        Check.due("the gap of all", 5, x.bestOffset(0, 2, 1));
    }

    private static void bestOffsetSmooth() {
        RollerMesh x = Shops.withRollers(Shops.teeth(4, 1, -1, 3), Shops.teeth(-1, -2, 0, -2));
        // By the offsets 0 to 3 the least gaps are 4, 3, 5 and 4, and the greatest differences 4, 5, 5 and 6.
        Check.due("all are smooth, the offset", 1, x.bestOffset(0, 1, 0));
        Check.due("all are smooth, the gap", 3, x.bestOffset(0, 1, 1));
        x.set(RollerMesh.SLACK, 4);
        Check.due("one is smooth, the offset", 0, x.bestOffset(0, 1, 0));
        Check.due("one is smooth, the gap", 4, x.bestOffset(0, 1, 1));
        x.set(RollerMesh.SLACK, 3);
        Check.due("none is smooth, the offset", -6, x.bestOffset(0, 1, 0));
        Check.due("none is smooth, the gap", -6, x.bestOffset(0, 1, 1));
    }

    private static void bestOffsetEdges() {
        RollerMesh x = Shops.fresh();
        x.set(RollerMesh.SLACK, 30);
        x.roller(24, 0);
        x.roller(24, 5);
        x.file(0, 0, 9);
        x.file(1, 23, -9);
        Check.due("the greatest offset", 23, x.bestOffset(0, 1, 0));
        Check.due("its gap", 6, x.bestOffset(0, 1, 1));
        Check.due("the other way round", 1, x.bestOffset(1, 0, 0));
        x.roller(2, -9);
        x.roller(2, -9);
        Check.due("a gap of 0", 0, x.bestOffset(2, 3, 1));
        Check.due("by the offset 0", 0, x.bestOffset(2, 3, 0));
    }

    private static void thickest() {
        RollerMesh x = Shops.withRollers(Shops.teeth(0, 3), Shops.teeth(0, 0));
        Check.due("the strength counts", 6, x.thickest(0, 1, 0, 4));
        x.card(30, 0);
        Check.due("without strength", 1, x.thickest(0, 1, 0, 4));
        x.card(1, 30);
        Check.due("all of them", 30, x.thickest(0, 1, 0, 4));
        x.set(RollerMesh.PULL, 2);
        Check.due("the pull counts", 3, x.thickest(0, 1, 0, 4));
        x.set(RollerMesh.PULL, 0);
        Check.due("without pull", 1, x.thickest(0, 1, 0, 4));
        Check.due("it does not mesh", -6, x.thickest(0, 1, 0, 3));
        x.set(RollerMesh.PULL, 30);
        x.set(RollerMesh.SLACK, 2);
        Check.due("it is not smooth", -6, x.thickest(0, 1, 0, 4));
        x.card(1, 0);
        x.file(0, 1, 0);
        Check.due("as thick as the press", 30, x.thickest(0, 1, 0, 30));
        x.card(1, 1);
        Check.due("by one more", 30, x.thickest(0, 1, 0, 29));
        Check.due("by one more than that", 29, x.thickest(0, 1, 0, 28));
        Check.due("the thickness of now stays", 1, x.count(1));
    }

    private static void thickestTurn() {
        RollerMesh x = Shops.withRollers(Shops.teeth(0, 2, 4, 6), Shops.teeth(0, 0));
        x.card(5, 30);
        x.set(RollerMesh.PULL, 2);
        // Between the last step and the step 0 lies 6, but the card is through there.
        Check.due("from the step 0 on", 30, x.thickest(0, 1, 0, 7));
        Check.due("an offset leads over it", 3, x.thickest(1, 0, 1, 7));
        x.card(30, 30);
        Check.due("as a run of one turn", 0, x.run(0, 1, 0, 7, 1, 4));
        Check.due("as a run of one step more", 1, x.run(0, 1, 0, 7, 1, 5));
        int falling = Shops.addRoller(x, 6, 4, 2, 0);
        for (int strength = 3; strength <= 20; strength++) {
            x.card(5, strength);
            // Thicker ones tear in the step 0; the next one tried must begin with the step 0 again.
            Check.due("with a strength of " + strength, strength + 1, x.thickest(falling, 1, 0, 7));
        }
    }

    private static void wrong() {
        RollerMesh x = Shops.withRollers(Shops.teeth(0, 0), Shops.teeth(0, 0));
        int[][] noSuch = {{-1, 0}, {0, -1}, {2, 0}, {0, 2}, {2, 2}, {8, 8}, {LEAST, 0}, {0, LEAST}, {MOST, 0},
            {0, MOST}};
        for (int[] pair : noSuch) {
            dueOfAll(x, -1, pair[0], pair[1], 0, 0);
            dueOfAll(x, -1, pair[0], pair[1], 24, 31);
            Check.due("pair, bad what", -1, x.pair(pair[0], pair[1], 0, 0, 4));
            Check.due("why, bad what", -1, x.why(pair[0], pair[1], 0, 0, 2));
            Check.due("bestOffset", -1, x.bestOffset(pair[0], pair[1], 0));
            Check.due("bestOffset, bad what", -1, x.bestOffset(pair[0], pair[1], 2));
        }
        for (int offset : new int[] {-1, 24, LEAST, MOST}) {
            dueOfAll(x, -2, 0, 1, offset, 0);
        }
        for (int same = 0; same < 2; same++) {
            dueOfAll(x, -2, same, same, 0, 5);
            Check.due("bestOffset of one roller", -2, x.bestOffset(same, same, 0));
        }
        for (int gap : new int[] {-1, 31, LEAST, MOST}) {
            Check.due("pair, bad gap", -2, x.pair(0, 1, 0, gap, 0));
            Check.due("why, bad gap", -2, x.why(0, 1, 0, gap, 0));
            Check.due("thickest, bad gap", -2, x.thickest(0, 1, 0, gap));
        }
        int[][] whats = {{4, 2}, {-1, -1}, {LEAST, LEAST}, {MOST, MOST}};
        for (int[] what : whats) {
            Check.due("pair, bad what", -2, x.pair(0, 1, 0, 0, what[0]));
            Check.due("why, bad what", -2, x.why(0, 1, 0, 0, what[1]));
            Check.due("bestOffset, bad what", -2, x.bestOffset(0, 1, what[1]));
        }
        Check.due("a bad value is told ahead of NONE", -2, x.thickest(0, 1, 24, 0));
    }

    private static void dueOfAll(RollerMesh x, int due, int upper, int lower, int offset, int gap) {
        String pair = "(" + upper + ", " + lower + ", " + offset + ", " + gap + ")";
        Check.due("pair" + pair, due, x.pair(upper, lower, offset, gap, 0));
        Check.due("why" + pair, due, x.why(upper, lower, offset, gap, 0));
        Check.due("leastGap" + pair, due, x.leastGap(upper, lower, offset));
        Check.due("thickest" + pair, due, x.thickest(upper, lower, offset, gap));
    }

    private static void nothingChanges() {
        RollerMesh x = Shops.withRollers(Shops.teeth(1, 2, 3), Shops.teeth(4, 5));
        x.run(0, 1, 0, 30, 2, 2);
        String before = Shops.allLooks(x);
        for (int what = 0; what < 4; what++) {
            x.pair(0, 1, 3, 9, what);
        }
        x.why(0, 1, 3, 9, 0);
        x.why(0, 1, 3, 9, 1);
        x.leastGap(0, 1, 3);
        x.bestOffset(0, 1, 0);
        x.thickest(0, 1, 3, 9);
        Check.dueText("looks", before, Shops.allLooks(x));
    }
}
