/** The boundary cases of cards and of runs: promise 7, and what they say under their heads. */
final class RunEdges extends Edges {
    private RunEdges() {
    }

    static void add() {
        pressed();
        strength();
        pull();
        firstStep();
        arguments();
        rollers();
        answers();
        notPossible();
        order();
        tornCards();
        steps();
        wear();
        worn();
        wornOnce();
        wearAnew();
    }

    /** One card through a pair of which the lower roller is flat: how many tear. */
    private static int torn(int thickness, int strength, int pull, int gap, int steps, int... upper) {
        RollerMesh x = shop(upper, teeth(0, 0));
        x.set(SLACK, 30);
        x.set(PULL, pull);
        x.card(thickness, strength);
        return x.run(0, 1, 0, gap, 1, steps);
    }

    private static void pressed() {
        head("Cards");
        String words = "In a step it is pressed by as much as it is thicker than the press (0 if it is not).";
        edge(words, "as thick as the press", () -> due(0, torn(5, 0, 0, 5, 9, 0, 0)));
        edge("or if it is pulled:", "neither pulled nor pressed by more than its strength",
            () -> due(0, torn(5, 4, 4, 5, 9, 0, 4)));
        edge("or if it is pulled:", "both in one step is one torn card", () -> due(1, torn(6, 4, 4, 6, 9, 0, 5)));
        edge(words, "thinner by 1", () -> due(0, torn(4, 0, 0, 5, 9, 0, 0)));
        edge(words, "thicker by 1", () -> due(1, torn(6, 0, 0, 5, 9, 0, 0)));
        edge(words, "as thin as can be, by the greatest press", () -> due(0, torn(1, 0, 0, 30, 9, -9, -9)));
        edge(words, "as thick as can be, by the least press", () -> due(1, torn(30, 28, 30, 1, 9, 0, 0)));
        // Presses of 6 and 1: a card of 5 is pressed by 0 and 4, and never by -1.
        edge(words, "thinner by 1 is 0, not -1", () -> due(0, torn(5, 30, 4, 6, 9, 0, 5)));
        edge(words, "thinner by much is 0 all the same", () -> due(0, torn(1, 30, 0, 30, 9, -9, 9)));
    }

    private static void strength() {
        String words = "It tears in a step if it is pressed by more than its strength";
        edge(words, "by its strength", () -> due(0, torn(8, 3, 30, 5, 9, 0, 0)));
        edge(words, "by 1 more", () -> due(1, torn(9, 3, 30, 5, 9, 0, 0)));
        edge(words, "by nothing, with the strength 0", () -> due(0, torn(5, 0, 30, 5, 9, 0, 0)));
        edge(words, "by 1, with the strength 0", () -> due(1, torn(6, 0, 30, 5, 9, 0, 0)));
        edge(words, "by the most there can be, 29, with the strength 29", () -> due(0, torn(30, 29, 30, 1, 9, 0, 0)));
        edge(words, "by the most there can be, 29, with the strength 28", () -> due(1, torn(30, 28, 30, 1, 9, 0, 0)));
        edge(words, "in its first step", () -> due(1, torn(6, 4, 30, 6, 1, 5, 0, 0)));
        edge(words, "in its last step", () -> due(1, torn(6, 4, 30, 6, 3, 0, 0, 5)));
        edge(words, "in the step behind its last one", () -> due(0, torn(6, 4, 30, 6, 2, 0, 0, 5)));
    }

    private static void pull() {
        String words = "what it is pressed by differs from that of the step ahead of it by more than PULL";
        edge(words, "by PULL, more pressed", () -> due(0, torn(5, 30, 4, 5, 2, 0, 4)));
        edge(words, "by 1 more, more pressed", () -> due(1, torn(6, 30, 4, 6, 2, 0, 5)));
        edge(words, "by PULL, less pressed", () -> due(0, torn(5, 30, 4, 5, 2, 4, 0)));
        edge(words, "by 1 more, less pressed", () -> due(1, torn(6, 30, 4, 6, 2, 5, 0)));
        edge(words, "by nothing, with PULL 0", () -> due(0, torn(9, 30, 0, 5, 9, 0, 0)));
        edge(words, "by 1, with PULL 0", () -> due(1, torn(9, 30, 0, 5, 2, 0, 1)));
        edge(words, "in its last step", () -> due(1, torn(6, 30, 4, 6, 3, 0, 0, 5)));
        edge(words, "in the step behind its last one", () -> due(0, torn(6, 30, 4, 6, 2, 0, 0, 5)));
        edge(words, "over the end of a turn, by 1 more", () -> due(1, torn(6, 30, 4, 6, 5, 5, 3, 1, 0)));
        edge(words, "over the end of a turn, by PULL", () -> due(0, torn(5, 30, 4, 5, 5, 4, 3, 1, 0)));
        edge(words, "by the most there can be, 29, with PULL 29", () -> due(0, pulledBy29(29)));
        edge(words, "by the most there can be, 29, with PULL 28", () -> due(1, pulledBy29(28)));
        edge(words, "by the most there can be, 29, with PULL 30", () -> due(0, pulledBy29(30)));
    }

    /** Presses of 1 and 30 in turn. */
    private static int pulledBy29(int pull) {
        RollerMesh x = shop(teeth(9, -9), teeth(7, -4));
        x.set(SLACK, 30);
        x.set(PULL, pull);
        x.card(30, 30);
        return x.run(0, 1, 0, 17, 1, 2);
    }

    private static void firstStep() {
        String words = "(in its first step it is not pulled)";
        edge(words, "the first card, much pressed", () -> due(0, torn(6, 30, 4, 6, 1, 5, 0)));
        edge(words, "each card behind it, with one step for each", () -> {
            RollerMesh x = presses6And1();
            due(0, x.run(0, 1, 0, 6, 9, 1));
        });
        edge(words, "the card behind one that tore", () -> {
            RollerMesh x = presses6And1();
            due("torn", 2, x.run(0, 1, 0, 6, 2, 2));
            due("each in its second step", 4, x.count(5));
        });
        edge(words, "the first card of the next run", () -> {
            RollerMesh x = presses6And1();
            due("pressed by 5", 0, x.run(1, 0, 1, 6, 1, 1));
            due("then by 0", 0, x.run(0, 1, 0, 6, 1, 1));
        });
    }

    private static RollerMesh presses6And1() {
        RollerMesh x = shop(teeth(0, 5), teeth(0, 0));
        x.card(6, 30);
        return x;
    }

    private static void arguments() {
        head("Promise 7: run");
        isChange(x -> x.run(0, 1, 23, 30, 99, 99));
        edge("Runs cards through a pair.", "that are counted, though all tear", () -> {
            RollerMesh x = flat(2, 2);
            x.card(30, 0);
            x.run(0, 1, 0, 1, 99, 1);
            same("99 99", x.count(3) + " " + x.count(4));
        });
        String range = "BAD_VALUE if another argument is out of range";
        new Range("the cards", 1, 99, BAD_VALUE).edges("`cards`: 1 to 99", 0, 0, cards -> flat(2, 2).run(0, 1, 0, 5, cards, 1));
        new Range("the steps", 1, 99, BAD_VALUE).edges("`steps`: 1 to 99 for each card", 0, 0,
            steps -> flat(2, 2).run(0, 1, 0, 5, 1, steps));
        new Range("the offset", 0, 23, BAD_VALUE).edges(range, 0, 0, offset -> flat(2, 2).run(0, 1, offset, 5, 1, 1));
        new Range("the gap", 0, 30, BAD_VALUE).edges(range, 0, 0, gap -> shop(teeth(-1, -1), teeth(-9, -9))
            .run(0, 1, 0, gap, 1, 1));
        edge("`cards`: 1 to 99", "1 is one card", () -> due(1, ranFlat(1, 1).count(3)));
        edge("`cards`: 1 to 99", "99 are as many", () -> due(99, ranFlat(99, 1).count(3)));
        edge("`steps`: 1 to 99 for each card", "1 is one step", () -> due(1, ranFlat(1, 1).count(5)));
        edge("`steps`: 1 to 99 for each card", "99 are as many", () -> due(99, ranFlat(1, 99).count(5)));
        edge("`steps`: 1 to 99 for each card", "99 for each of 99", () -> due(9801, ranFlat(99, 99).count(5)));
    }

    private static RollerMesh ranFlat(int cards, int steps) {
        RollerMesh x = flat(2, 2);
        x.run(0, 1, 0, 5, cards, steps);
        return x;
    }

    private static void rollers() {
        new Range("the upper roller of 8", 0, 7, NO_SUCH).edges("NO_SUCH if there is no such roller", 0, 0,
            roller -> eightRollers().run(roller, 3, 0, 5, 1, 1));
        new Range("the lower roller of 8", 0, 7, NO_SUCH).edges("NO_SUCH if there is no such roller", 0, 0,
            roller -> eightRollers().run(3, roller, 0, 5, 1, 1));
        edge("NO_SUCH if there is no such roller", "there is but one", () -> due(NO_SUCH, flat(2).run(0, 1, 0, 5, 1, 1)));
        edge("or both rollers are the same", "the first", () -> due(BAD_VALUE, flat(2, 2).run(0, 0, 0, 5, 1, 1)));
        edge("or both rollers are the same", "the last of 8", () -> due(BAD_VALUE, eightRollers().run(7, 7, 0, 5, 1, 1)));
        edge("or both rollers are the same", "two of one kind are not", () -> due(0, flat(2, 2).run(1, 0, 0, 5, 1, 1)));
    }

    private static void answers() {
        edge("Returns how many cards tear", "none of 99", () -> due(0, flat(2, 2).run(0, 1, 0, 5, 99, 99)));
        edge("Returns how many cards tear", "all of 99", () -> {
            RollerMesh x = flat(2, 2);
            x.card(30, 0);
            due(99, x.run(0, 1, 0, 5, 99, 99));
        });
        edge("Returns how many cards tear", "of this run alone", () -> {
            RollerMesh x = flat(2, 2);
            x.card(30, 0);
            x.run(0, 1, 0, 5, 9, 9);
            due(4, x.run(0, 1, 0, 5, 4, 9));
        });
        edge("Returns how many cards tear", "by the card of now", () -> {
            RollerMesh x = flat(2, 2);
            x.card(30, 0);
            x.undo();
            due(0, x.run(0, 1, 0, 5, 9, 9));
        });
    }

    private static void notPossible() {
        String words = "NOT_POSSIBLE if they do not mesh";
        edge(words, "the press is 0", () -> due(NOT_POSSIBLE, flat(2, 2).run(0, 1, 0, 0, 1, 1)));
        edge(words, "the press is 1", () -> due(0, flat(2, 2).run(0, 1, 0, 1, 1, 1)));
        edge(words, "it differs by SLACK", () -> due(0, shop(teeth(0, 6), teeth(0, 0)).run(0, 1, 0, 9, 1, 1)));
        edge(words, "it differs by 1 more", () -> due(NOT_POSSIBLE, shop(teeth(0, 7), teeth(0, 0)).run(0, 1, 0, 9, 1, 1)));
        edge(words, "in a step that the run does not come to", () -> due(NOT_POSSIBLE, late(6)));
        edge(words, "but for that step it would mesh", () -> due(0, late(7)));
        edge(words, "by the last step and the step 0 alone", () -> {
            RollerMesh x = shop(teeth(0, 1, 2, 3), teeth(0, 0));
            x.set(SLACK, 2);
            due(NOT_POSSIBLE, x.run(0, 1, 0, 9, 1, 1));
        });
    }

    /** The last one of 552 steps is the only one in which both teeth of the height 3 meet. */
    private static int late(int gap) {
        RollerMesh x = flat(24, 23);
        x.file(0, 23, 3);
        x.file(1, 22, 3);
        return x.run(0, 1, 0, gap, 1, 1);
    }

    /** Cards of 6 that tear by their strength alone, at the teeth of 5; "torn cards, steps". */
    private static String ran(int cards, int steps, int... upper) {
        RollerMesh x = shop(upper, teeth(0, 0));
        x.set(PULL, 30);
        x.card(6, 4);
        return x.run(0, 1, 0, 6, cards, steps) + " " + x.count(5);
    }

    private static void order() {
        head("Runs");
        String words = "To run cards through a pair takes some steps for each card, one card behind the other";
        edge(words, "one card of one step", () -> same("0 1", ran(1, 1, 0, 0)));
        edge(words, "99 cards of 99 steps", () -> same("0 9801", ran(99, 99, 0, 0)));
        String begins = "each card begins where the one ahead of it ended";
        edge(begins, "the second one at the last step of a turn", () -> same("1 4", ran(2, 3, 0, 0, 0, 5)));
        edge(begins, "the second one over the end of a turn", () -> same("2 6", ran(3, 3, 0, 5, 0, 0)));
        edge(begins, "with steps for each as many as two turns", () -> same("0 8", ran(2, 4, 0, 0)));
        edge(begins, "the first one at the step 0", () -> same("1 1", ran(1, 9, 5, 0)));
        edge(begins, "the first one of the next run at the step 0", () -> {
            RollerMesh x = shop(teeth(0, 5, 0, 0), teeth(0, 0));
            x.set(PULL, 30);
            x.card(6, 4);
            x.run(0, 1, 0, 6, 1, 1);
            due(0, x.run(0, 1, 0, 6, 1, 1));
        });
        edge(begins, "the first one at the step 0, which the offset moves", () -> {
            RollerMesh x = shop(teeth(0, 0), teeth(0, 5, 0, 0));
            x.set(PULL, 30);
            x.card(6, 4);
            due(1, x.run(0, 1, 1, 6, 1, 1));
        });
    }

    private static void tornCards() {
        String words = "A card that tears is out at that step (the next one begins with the step behind it).";
        edge(words, "in its first step", () -> same("2 5", ran(3, 3, 5, 0, 0, 0)));
        edge(words, "in its last step", () -> same("1 6", ran(2, 3, 0, 0, 5, 0)));
        edge(words, "in the last step of a turn", () -> same("3 12", ran(3, 5, 0, 0, 0, 5)));
        edge(words, "in each step", () -> same("99 99", ran(99, 99, 5, 5)));
        edge(words, "the last card", () -> same("1 4", ran(1, 99, 0, 0, 0, 5)));
        edge("The run ends when all cards are through", "the last card tears, the one ahead did not",
            () -> same("1 6", ran(2, 3, 0, 0, 0, 0, 0, 5)));
        edge("The run ends when all cards are through", "torn ones are not run again", () -> same("2 4", ran(2, 9, 0, 5)));
    }

    private static void steps() {
        String words = "the steps that the run took are counted for both rollers";
        edge(words, "the upper one and the lower one", () -> same("6 6", stepsOf(0, 1)));
        edge(words, "no other one", () -> same("0 0", stepsOf(2, 3)));
        edge(words, "the steps of torn cards as far as they came", () -> {
            RollerMesh x = shop(teeth(0, 0, 5), teeth(0, 0));
            x.card(6, 4);
            x.run(0, 1, 0, 6, 2, 9);
            same("6 6", x.of(0, 5) + " " + x.of(1, 5));
        });
        edge(words, "of two runs, with one roller in both", () -> {
            RollerMesh x = flat(2, 3, 4);
            x.run(0, 1, 0, 5, 1, 3);
            x.run(2, 0, 0, 5, 1, 4);
            same("7 3 4", x.of(0, 5) + " " + x.of(1, 5) + " " + x.of(2, 5));
        });
    }

    private static String stepsOf(int one, int other) {
        RollerMesh x = flat(2, 3, 4, 5);
        x.run(0, 1, 0, 5, 2, 3);
        return x.of(one, 5) + " " + x.of(other, 5);
    }

    /** How often the upper roller, of 3 teeth, and the lower one, of 2, are worn by runs of one card each. */
    private static String wornBy(int wear, int... runs) {
        RollerMesh x = flat(3, 2);
        x.set(WEAR, wear);
        for (int steps : runs) {
            x.run(0, 1, 0, 30, 1, steps);
        }
        return x.of(0, 6) + " " + x.of(1, 6);
    }

    private static void wear() {
        String words = "When a roller has made WEAR times its teeth steps, or more, since it was worn last";
        edge(words, "one step less than both", () -> same("0 0", wornBy(1, 1)));
        edge(words, "just enough for one of them", () -> same("0 1", wornBy(1, 2)));
        edge(words, "just enough for the other one", () -> same("1 1", wornBy(1, 3)));
        edge(words, "one step more", () -> same("1 1", wornBy(1, 4)));
        edge(words, "with the WEAR of 20, one step less", () -> same("0 0", wornBy(20, 39)));
        edge(words, "with the WEAR of 20, just enough", () -> same("0 1", wornBy(20, 40)));
        edge(words, "over two runs, one step less", () -> same("0 0", wornBy(20, 38, 1)));
        edge(words, "over two runs, just enough", () -> same("0 1", wornBy(20, 39, 1)));
        edge(words, "twice in a row", () -> same("2 2", wornBy(1, 3, 3)));
        edge(words, "not again by the steps of before", () -> same("1 1", wornBy(1, 3, 1)));
        edge(words, "with the greatest WEAR, one step less for one of them", () -> same("0 1", wornBy(99, 99, 99, 98)));
        edge(words, "with the greatest WEAR, just enough", () -> same("1 1", wornBy(99, 99, 99, 99)));
        edge(words, "a lower WEAR wears nothing until the next run", () -> {
            RollerMesh x = flat(2, 2);
            x.run(0, 1, 0, 30, 1, 9);
            x.set(WEAR, 1);
            due("at first", 0, x.of(0, 6));
            x.run(0, 1, 0, 30, 1, 1);
            due("by the next run", 1, x.of(0, 6));
        });
        edge(words, "a higher WEAR, set in time", () -> {
            RollerMesh x = flat(2, 2);
            x.run(0, 1, 0, 30, 1, 39);
            x.set(WEAR, 21);
            x.run(0, 1, 0, 30, 1, 1);
            due(0, x.of(0, 6));
        });
    }

    private static void worn() {
        String words = "each tooth that is above 0 becomes 1 less at the end of the run";
        edge(words, "1 becomes 0", () -> same("0,0", wornHeights(1, 1)));
        edge(words, "0 stays", () -> same("0,0", wornHeights(0, 0)));
        edge(words, "-1 stays", () -> same("-1,0", wornHeights(-1, 1)));
        edge(words, "the least stays, the greatest does not", () -> same("-9,8", wornHeights(-9, 9)));
        edge(words, "the first and the last of 24", () -> {
            RollerMesh x = fresh();
            x.roller(24, 0);
            x.roller(2, 0);
            x.file(0, 0, 2);
            x.file(0, 23, 2);
            x.set(WEAR, 1);
            x.run(0, 1, 0, 30, 1, 24);
            same("1" + repeated(",0", 22) + ",1", Shops.heights(x, 0));
        });
        edge(words, "all of 24 teeth, and nothing of the next roller", () -> {
            RollerMesh x = fresh();
            x.roller(24, 1);
            x.roller(24, 0);
            x.roller(24, 1);
            x.set(WEAR, 1);
            x.run(0, 1, 0, 30, 1, 24);
            same("24 24 0 0 1", x.of(0, 0) + " " + x.of(1, 0) + " " + x.of(0, 1) + " " + x.of(1, 5) + " " + x.of(1, 6));
        });
        edge(words, "its cards met the teeth of before", () -> {
            RollerMesh x = shop(teeth(1, 1), teeth(0, 0));
            x.set(WEAR, 1);
            x.card(3, 1);
            due("pressed by 2", 9, x.run(0, 1, 0, 2, 9, 9));
            due("then by 1", 0, x.run(0, 1, 0, 2, 9, 9));
        });
        edge(words, "both rollers in one run", () -> {
            RollerMesh x = shop(teeth(1, 2), teeth(3, 4));
            x.set(WEAR, 1);
            x.run(0, 1, 0, 30, 1, 2);
            same("0,1 2,3", Shops.heights(x, 0) + " " + Shops.heights(x, 1));
        });
        edge(words, "a roller that is not in the run stays", () -> {
            RollerMesh x = shop(teeth(1, 1), teeth(1, 1), teeth(1, 1));
            x.set(WEAR, 1);
            x.run(0, 2, 0, 30, 1, 9);
            same("1,1", Shops.heights(x, 1));
        });
        edge(words, "a roller with more teeth stays yet", () -> {
            RollerMesh x = shop(teeth(1, 1), teeth(1, 1, 1));
            x.set(WEAR, 1);
            x.run(0, 1, 0, 30, 1, 2);
            same("0,0 1,1,1", Shops.heights(x, 0) + " " + Shops.heights(x, 1));
        });
    }

    private static String wornHeights(int first, int second) {
        RollerMesh x = shop(teeth(first, second), teeth(0, 0));
        x.set(SLACK, 30);
        x.set(WEAR, 1);
        x.run(0, 1, 0, 30, 1, 2);
        return Shops.heights(x, 0);
    }

    private static void wornOnce() {
        String words = "(once, however many steps there were)";
        edge(words, "as many as wear it twice", () -> same("8,8 1", wornAfter(1, 1, 4)));
        edge(words, "as many as there can be", () -> same("8,8 1", wornAfter(1, 99, 99)));
        edge(words, "two runs are twice", () -> {
            RollerMesh x = shop(teeth(9, 9), teeth(0, 0));
            x.set(WEAR, 1);
            x.set(SLACK, 30);
            x.run(0, 1, 0, 30, 1, 2);
            x.run(0, 1, 0, 30, 1, 2);
            same("7,7", Shops.heights(x, 0));
        });
    }

    private static String wornAfter(int wear, int cards, int steps) {
        RollerMesh x = shop(teeth(9, 9), teeth(0, 0));
        x.set(WEAR, wear);
        x.run(0, 1, 0, 30, cards, steps);
        return Shops.heights(x, 0) + " " + x.of(0, 6);
    }

    private static void wearAnew() {
        String words = "and the count begins with 0 anew";
        edge(words, "just enough steps", () -> due(0, stepsLeft(2)));
        edge(words, "one more step is not kept", () -> due(0, stepsLeft(3)));
        edge(words, "one step less is", () -> due(1, stepsLeft(1)));
        edge(words, "the next step is the first", () -> due(1, stepsLeft(2, 1)));
        edge(words, "the steps so far go on", () -> {
            RollerMesh x = flat(2, 2);
            x.set(WEAR, 1);
            x.run(0, 1, 0, 30, 1, 9);
            x.run(0, 1, 0, 30, 1, 9);
            due(18, x.count(5));
        });
    }

    private static int stepsLeft(int... runs) {
        RollerMesh x = flat(2, 3);
        x.set(WEAR, 1);
        for (int steps : runs) {
            x.run(0, 1, 0, 30, 1, steps);
        }
        return x.of(0, 5);
    }
}
