/** Promises 8 to 10: what there is. */
final class LookTests {
    private static final int LEAST = Integer.MIN_VALUE;
    private static final int MOST = Integer.MAX_VALUE;

    private LookTests() {
    }

    static void add() {
        Check.test("promise 8: of", LookTests::of);
        Check.test("promise 8: of, the edges", LookTests::ofEdges);
        Check.test("promise 8: of, heights at each tooth", LookTests::ofEachTooth);
        Check.test("promise 8: of, a roller where another one was", LookTests::ofReused);
        Check.test("promise 8: of, wrong", LookTests::ofWrong);
        Check.test("promise 9: tooth", LookTests::tooth);
        Check.test("promise 10: count", LookTests::count);
    }

    private static void of() {
        RollerMesh x = Shops.withRollers(Shops.teeth(3, 0, -2, 4, -5, 0), Shops.teeth(0, 0));
        x.run(0, 1, 0, 30, 1, 7);
        x.set(RollerMesh.SLACK, 30);
        x.run(0, 1, 0, 30, 1, 7);
        int[] due = {6, 0b001001, 0b010100, 13, 4, 7, 0};
        for (int what = 0; what < due.length; what++) {
            Check.due("of(0, " + what + ")", due[what], x.of(0, what));
        }
        x.set(RollerMesh.WEAR, 2);
        x.run(0, 1, 0, 30, 1, 5);
        int[] worn = {6, 0b001001, 0b010100, 12, 4, 0, 1};
        for (int what = 0; what < worn.length; what++) {
            Check.due("worn, of(0, " + what + ")", worn[what], x.of(0, what));
        }
    }

    private static void ofEdges() {
        RollerMesh x = Shops.fresh();
        x.roller(24, 9);
        x.roller(24, -9);
        x.roller(2, 0);
        int[][] due = {{24, 0xFFFFFF, 0, 18, 18, 0, 0}, {24, 0, 0xFFFFFF, 0, 0, 0, 0}, {2, 0, 0, 9, 9, 0, 0}};
        for (int roller = 0; roller < due.length; roller++) {
            for (int what = 0; what < 7; what++) {
                Check.due("of(" + roller + ", " + what + ")", due[roller][what], x.of(roller, what));
            }
        }
        x.file(0, 23, -1);
        x.file(1, 23, 1);
        Check.due("above but for the last", 0x7FFFFF, x.of(0, 1));
        Check.due("the last is below", 0x800000, x.of(0, 2));
        Check.due("the least is the last", 8, x.of(0, 4));
        Check.due("the greatest is the last", 10, x.of(1, 3));
    }

    private static void ofEachTooth() {
        RollerMesh x = Shops.withRollers(Shops.teeth(0, 0, 0, 0));
        for (int tooth = 0; tooth < 4; tooth++) {
            x.file(0, tooth, 5);
            Check.due("the greatest at " + tooth, 14, x.of(0, 3));
            Check.due("the set of it", 1 << tooth, x.of(0, 1));
            x.file(0, tooth, -5);
            Check.due("the least at " + tooth, 4, x.of(0, 4));
            Check.due("the set of it", 1 << tooth, x.of(0, 2));
            x.file(0, tooth, 0);
        }
    }

    private static void ofReused() {
        RollerMesh x = Shops.withRollers(Shops.teeth(-9, 9, -9, 9), Shops.teeth(-9, 9, -9, 9));
        x.set(RollerMesh.WEAR, 1);
        x.set(RollerMesh.SLACK, 30);
        Check.due("a run that wears both", 0, x.run(0, 1, 1, 30, 1, 4));
        x.melt(1);
        x.roller(2, 1);
        int[] due = {2, 0b11, 0, 10, 10, 0, 0};
        for (int what = 0; what < due.length; what++) {
            Check.due("of(1, " + what + ")", due[what], x.of(1, what));
        }
    }

    private static void ofWrong() {
        RollerMesh x = Shops.withRollers(Shops.teeth(0, 0));
        for (int roller : new int[] {-1, 1, 8, LEAST, MOST}) {
            Check.due("of(" + roller + ", 0)", -1, x.of(roller, 0));
            Check.due("of(" + roller + ", 7)", -1, x.of(roller, 7));
        }
        for (int what : new int[] {-1, 7, LEAST, MOST}) {
            Check.due("of(0, " + what + ")", -2, x.of(0, what));
        }
        Check.due("it is no change", 3, x.count(10));
    }

    private static void tooth() {
        RollerMesh x = Shops.withRollers(Shops.teeth(9, -9, 0), Shops.teeth(1, 2));
        Check.due("the highest", 18, x.tooth(0, 0));
        Check.due("the deepest", 0, x.tooth(0, 1));
        Check.due("the last", 9, x.tooth(0, 2));
        Check.due("of another roller", 11, x.tooth(1, 1));
        int[][] wrong = {{-1, 0}, {2, 0}, {8, 0}, {0, -1}, {0, 3}, {1, 2}, {0, 24}, {LEAST, 0}, {MOST, 0},
            {0, LEAST}, {0, MOST}};
        for (int[] call : wrong) {
            Check.due("tooth(" + call[0] + ", " + call[1] + ")", -1, x.tooth(call[0], call[1]));
        }
    }

    private static void count() {
        RollerMesh x = Shops.fresh();
        x.roller(2, 0);
        x.roller(3, 0);
        x.set(RollerMesh.SLACK, 11);
        x.set(RollerMesh.PULL, 12);
        x.set(RollerMesh.WEAR, 13);
        x.card(14, 15);
        x.run(0, 1, 0, 14, 3, 5);
        x.card(30, 15);
        x.run(0, 1, 0, 14, 4, 5);
        Shops.write(x, "#anything");
        int[] due = {2, 30, 15, 7, 4, 19, 11, 12, 13, 9, 6};
        for (int what = 0; what < due.length; what++) {
            Check.due("count(" + what + ")", due[what], x.count(what));
        }
        for (int what : new int[] {-1, 11, LEAST, MOST}) {
            Check.due("count(" + what + ")", -2, x.count(what));
        }
    }
}
