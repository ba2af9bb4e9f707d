/** The boundary cases of pairs: promises 11 to 15, and what they say under their head. */
final class PairEdges extends Edges {
    private static final Range OFFSET = new Range("the offset", 0, 23, BAD_VALUE);
    private static final Range GAP = new Range("the gap", 0, 30, BAD_VALUE);
    private static final Range ROLLER = new Range("the upper roller of 8", 0, 7, NO_SUCH);
    private static final Range LOWER = new Range("the lower roller of 8", 0, 7, NO_SUCH);

    private PairEdges() {
    }

    static void add() {
        ranges();
        rollerRanges();
        sameRoller();
        upperWraps();
        lowerWraps();
        turns();
        presses();
        smooth();
        smoothRound();
        meshes();
        pair();
        why();
        whyOfSteps();
        leastGap();
        bestOffset();
        bestOffsetSmooth();
        thickest();
        thickestTurn();
        nothingChanges();
    }

    private static void ranges() {
        head("Pairs");
        String offset = "an offset (0 to 23)";
        OFFSET.edges(offset + ", and a gap (0 to 30)", 2, 2, value -> flat(2, 2).pair(0, 1, value, 5, 0));
        GAP.edges("a gap (0 to 30)", 100, 130, value -> flat(2, 2).pair(0, 1, 0, value, 1));
        head("Promise 11: pair");
        OFFSET.edges("errors as told", 105, 105, value -> flat(2, 2).pair(0, 1, value, 5, 1));
        GAP.edges("errors as told", 102, 132, value -> deep().pair(0, 1, 0, value, 2));
        new Range("what", 0, 3, BAD_VALUE).edges("errors as told", 2, 1, what -> flat(2, 2).pair(0, 1, 0, 5, what));
        head("Promise 12: why");
        OFFSET.edges("errors as told", 0, 0, value -> flat(2, 2).why(0, 1, value, 5, 0));
        GAP.edges("errors as told", 1, 0, value -> flat(2, 2).why(0, 1, 0, value, 0));
        new Range("what", 0, 1, BAD_VALUE).edges("errors as told", 0, NONE, what -> flat(2, 2).why(0, 1, 0, 5, what));
        head("Promise 13: leastGap");
        OFFSET.edges("errors as told", 1, 1, value -> flat(2, 2).leastGap(0, 1, value));
        head("Promise 14: bestOffset");
        new Range("what", 0, 1, BAD_VALUE).edges("errors as told", 0, 1, what -> flat(2, 2).bestOffset(0, 1, what));
        head("Promise 15: thickest");
        OFFSET.edges("errors as told", 10, 10, value -> flat(2, 2).thickest(0, 1, value, 5));
        GAP.edges("errors as told", 7, 30, value -> deep().thickest(0, 1, 0, value));
    }

    /** Two rollers that mesh even with the gap 0: their press is the gap and 2. */
    private static RollerMesh deep() {
        return shop(teeth(-1, -1), teeth(-1, -1));
    }

    private static void rollerRanges() {
        head("Promise 11: pair");
        ROLLER.edges("errors as told", 2, 2, roller -> eightRollers().pair(roller, 3, 0, 5, 0));
        LOWER.edges("errors as told", 2, 2, roller -> eightRollers().pair(3, roller, 0, 5, 0));
        head("Promise 12: why");
        ROLLER.edges("errors as told", 0, 0, roller -> eightRollers().why(roller, 3, 0, 5, 0));
        LOWER.edges("errors as told", 0, 0, roller -> eightRollers().why(3, roller, 0, 5, 0));
        head("Promise 13: leastGap");
        ROLLER.edges("errors as told", 1, 1, roller -> eightRollers().leastGap(roller, 3, 0));
        LOWER.edges("errors as told", 1, 1, roller -> eightRollers().leastGap(3, roller, 0));
        head("Promise 14: bestOffset");
        ROLLER.edges("errors as told", 0, 0, roller -> eightRollers().bestOffset(roller, 3, 0));
        LOWER.edges("errors as told", 0, 0, roller -> eightRollers().bestOffset(3, roller, 0));
        head("Promise 15: thickest");
        ROLLER.edges("errors as told", 10, 10, roller -> eightRollers().thickest(roller, 3, 0, 5));
        LOWER.edges("errors as told", 10, 10, roller -> eightRollers().thickest(3, roller, 0, 5));
        head("Texts");
        edge("NO_SUCH if there is no such roller", "there is but one", () -> due(NO_SUCH, flat(2).pair(0, 1, 0, 5, 0)));
        edge("NO_SUCH if there is no such roller", "the other one was melted", () -> {
            RollerMesh x = flat(2, 2);
            x.melt(0);
            due(NO_SUCH, x.leastGap(0, 1, 0));
        });
    }

    private static void sameRoller() {
        head("Texts");
        String words = "or both rollers are the same";
        edge(words, "pair, the first", () -> due(BAD_VALUE, flat(2, 2).pair(0, 0, 0, 5, 0)));
        edge(words, "pair, the last of 8", () -> due(BAD_VALUE, eightRollers().pair(7, 7, 0, 5, 0)));
        edge(words, "why", () -> due(BAD_VALUE, flat(2, 2).why(1, 1, 0, 5, 0)));
        edge(words, "leastGap", () -> due(BAD_VALUE, flat(2, 2).leastGap(1, 1, 0)));
        edge(words, "bestOffset", () -> due(BAD_VALUE, flat(2, 2).bestOffset(1, 1, 0)));
        edge(words, "thickest", () -> due(BAD_VALUE, flat(2, 2).thickest(1, 1, 0, 5)));
        edge(words, "there is but this one", () -> due(BAD_VALUE, flat(2).leastGap(0, 0, 0)));
        edge(words, "two of one kind are not the same", () -> due(1, flat(2, 2).leastGap(1, 0, 0)));
        head("Pairs");
        edge("A pair is an upper roller, another one as the lower one", "the upper one is the later one",
            () -> due(2, flat(2, 2).pair(1, 0, 0, 5, 0)));
    }

    /** The step in which the press is 0, as teeth of the height 3 meet: the gap is 6. */
    private static int meetingStep(int[] upper, int[] lower, int offset) {
        return shop(upper, lower).why(0, 1, offset, 6, 1);
    }

    private static void upperWraps() {
        head("Pairs");
        edge("in the step s, from 0 on,", "the step 0 comes ahead of the step 1",
            () -> due(0, shop(teeth(1, 2), teeth(0, 0)).why(0, 1, 0, 1, 1)));
        edge("in the step s, from 0 on,", "the step 1", () -> due(1, shop(teeth(1, 2), teeth(0, 0)).why(0, 1, 0, 2, 1)));
        String words = "the tooth s of the upper one (left over by how many it has)";
        edge(words, "its first tooth in the step 0", () -> due(0, meetingStep(teeth(3, 0), teeth(3, 0, 0), 0)));
        edge(words, "its last tooth ahead of the wrap", () -> due(1, meetingStep(teeth(0, 3), teeth(0, 3, 0), 0)));
        edge(words, "its first tooth again behind the last one",
            () -> due(2, meetingStep(teeth(3, 0), teeth(0, 0, 3), 0)));
        edge(words, "its last tooth in the last step of a turn",
            () -> due(5, meetingStep(teeth(0, 3), teeth(0, 0, 3), 0)));
        edge(words, "its last one of 24 in the last of 552 steps", () -> due(551, lateStep(24, 23)));
        edge(words, "its last one of 23 in the last of 552 steps", () -> due(551, lateStep(23, 24)));
    }

    /** Both last teeth are high, so that they meet in the last step of a turn. */
    private static int lateStep(int upper, int lower) {
        return late(upper, lower, 3).why(0, 1, 0, 6, 1);
    }

    private static RollerMesh late(int upper, int lower, int height) {
        RollerMesh x = flat(upper, lower);
        x.file(0, upper - 1, height);
        x.file(1, lower - 1, height);
        return x;
    }

    private static void lowerWraps() {
        String words = "meets the tooth s and offset (left over by how many the lower one has) of the lower one";
        int[] upper = teeth(3, 0, 0);
        int[] lower = teeth(0, 3);
        edge(words, "the offset 0", () -> due(3, meetingStep(upper, lower, 0)));
        edge(words, "the offset of its last tooth", () -> due(0, meetingStep(upper, lower, 1)));
        edge(words, "an offset of as many as it has", () -> due(3, meetingStep(upper, lower, 2)));
        edge(words, "an offset of one more than it has", () -> due(0, meetingStep(upper, lower, 3)));
        edge(words, "the offset 22", () -> due(3, meetingStep(upper, lower, 22)));
        edge(words, "the offset 23", () -> due(0, meetingStep(upper, lower, 23)));
        edge(words, "it does not move the upper one", () -> due(1, meetingStep(teeth(0, 3), teeth(0, 0, 3), 1)));
        edge(words, "the offset 23 of 24 teeth, in the step 0", () -> {
            RollerMesh x = flat(24, 24);
            x.file(0, 0, 3);
            x.file(1, 23, 3);
            due(0, x.why(0, 1, 23, 6, 1));
        });
        edge(words, "the offset 23 of 24 teeth, in the step 1", () -> {
            RollerMesh x = flat(24, 24);
            x.file(0, 1, 3);
            x.file(1, 0, 3);
            due(1, x.why(0, 1, 23, 6, 1));
        });
        edge(words, "the offset 23 of 24 teeth, in the step 23", () -> {
            RollerMesh x = flat(24, 24);
            x.file(0, 23, 3);
            x.file(1, 22, 3);
            due(23, x.why(0, 1, 23, 6, 1));
        });
        edge(words, "the offset 23 of 23 teeth is 0", () -> {
            RollerMesh x = flat(23, 23);
            x.file(0, 5, 3);
            x.file(1, 5, 3);
            due(5, x.why(0, 1, 23, 6, 1));
        });
    }

    private static void turns() {
        String words = "the least number that both numbers of teeth divide: a turn";
        int[][] cases = {{2, 2, 2}, {24, 24, 24}, {2, 24, 24}, {24, 2, 24}, {12, 24, 24}, {2, 3, 6}, {3, 2, 6},
            {4, 6, 12}, {6, 4, 12}, {18, 24, 72}, {22, 24, 264}, {23, 24, 552}, {24, 23, 552}, {23, 22, 506}, {2, 23, 46}};
        for (int[] row : cases) {
            edge(words, row[0] + " and " + row[1] + " teeth",
                () -> due(row[2], flat(row[0], row[1]).pair(0, 1, 0, 5, 0)));
        }
        edge(words, "an offset leaves it", () -> due(552, flat(23, 24).pair(0, 1, 23, 5, 0)));
        edge(words, "a pair that does not mesh has one, too", () -> due(552, flat(23, 24).pair(0, 1, 0, 0, 0)));
    }

    private static void presses() {
        String words = "the press is the gap less the height of the upper tooth less that of the lower one";
        edge(words, "the least there can be", () -> due(100 - 18, shop(teeth(9, 9), teeth(9, 9)).pair(0, 1, 0, 0, 1)));
        edge(words, "the greatest there can be",
            () -> due(100 + 48, shop(teeth(-9, -9), teeth(-9, -9)).pair(0, 1, 0, 30, 2)));
        edge(words, "high on deep", () -> due(100, shop(teeth(9, 9), teeth(-9, -9)).pair(0, 1, 0, 0, 2)));
        edge(words, "deep on high", () -> due(100, shop(teeth(-9, -9), teeth(9, 9)).pair(0, 1, 0, 0, 1)));
    }

    /** Whether a roller with these teeth meshes with a flat one by the gap 30. */
    private static int isSmooth(int slack, int... heights) {
        RollerMesh x = shop(heights, teeth(0, 0));
        x.set(SLACK, slack);
        return x.pair(0, 1, 0, 30, 3);
    }

    private static void smooth() {
        String same = "It is smooth if the press is the same as in the step ahead";
        edge(same, "the same with SLACK 0", () -> due(1, isSmooth(0, 4, 4, 4)));
        edge(same, "not the same by 1 with SLACK 0", () -> due(0, isSmooth(0, 4, 4, 5)));
        String slack = "or differs by at most SLACK";
        edge(slack, "by SLACK, higher", () -> due(1, isSmooth(6, 0, 0, 6, 3)));
        edge(slack, "by 1 more, higher", () -> due(0, isSmooth(6, 0, 0, 7, 3)));
        edge(slack, "by SLACK, deeper", () -> due(1, isSmooth(6, 0, 0, -6, -3)));
        edge(slack, "by 1 more, deeper", () -> due(0, isSmooth(6, 0, 0, -7, -3)));
        edge(slack, "by SLACK, back from high", () -> due(1, isSmooth(5, 0, 4, 5, 0)));
        edge(slack, "by 1 more, back from high", () -> due(0, isSmooth(5, 0, 4, 6, 0)));
        edge(slack, "by the greatest SLACK, 30", () -> due(1, widest(6, -6)));
        edge(slack, "by more than the greatest SLACK, 31", () -> due(0, widest(7, -6)));
        edge(slack, "by the most there can be, 36", () -> due(0, widest(9, -9)));
        edge(slack, "two rollers that differ alike", () -> due(1, shop(teeth(5, -5), teeth(-5, 5)).pair(0, 1, 0, 9, 3)));
    }

    private static int widest(int high, int deep) {
        RollerMesh x = shop(teeth(9, -9), teeth(high, deep));
        x.set(SLACK, 30);
        return x.pair(0, 1, 0, 30, 3);
    }

    private static void smoothRound() {
        String words = "(in the step 0: the last one of a turn)";
        edge(words, "it differs by SLACK", () -> due(1, isSmooth(3, 0, 1, 2, 3)));
        edge(words, "it differs by 1 more", () -> due(0, isSmooth(2, 0, 1, 2, 3)));
        edge(words, "then the step 0 is told", () -> {
            RollerMesh x = shop(teeth(0, 1, 2, 3), teeth(0, 0));
            x.set(SLACK, 2);
            due("the reason", 2, x.why(0, 1, 0, 30, 0));
            due("the step", 0, x.why(0, 1, 0, 30, 1));
        });
        edge(words, "of a turn of two steps", () -> {
            RollerMesh x = shop(teeth(0, 7), teeth(0, 0));
            due(0, x.why(0, 1, 0, 30, 1));
        });
        // Presses of a turn, by the gap 20: 20, 16, 16, 16, 20, 12.
        edge(words, "not the last tooth of a roller", () -> {
            RollerMesh x = shop(teeth(0, 4), teeth(0, 0, 4));
            x.set(SLACK, 4);
            due("the first step that is not smooth", 0, x.why(0, 1, 0, 20, 1));
            x.set(SLACK, 8);
            due("all are smooth", NONE, x.why(0, 1, 0, 20, 1));
        });
        edge(words, "of a turn of 552 steps", () -> {
            RollerMesh x = late(24, 23, 4);
            x.set(SLACK, 7);
            due("the step", 0, x.why(0, 1, 0, 30, 1));
            x.set(SLACK, 8);
            due("with more slack", NONE, x.why(0, 1, 0, 30, 1));
        });
    }

    private static void meshes() {
        String words = "A pair meshes if in no step of a turn the press is below 1, and each is smooth.";
        edge(words, "the press is 1 all round", () -> due(1, flat(2, 2).pair(0, 1, 0, 1, 3)));
        edge(words, "the press is 0 all round", () -> due(0, flat(2, 2).pair(0, 1, 0, 0, 3)));
        edge(words, "the press is 0 in the step 0 alone", () -> due(0, shop(teeth(3, 0), teeth(0, 0)).pair(0, 1, 0, 3, 3)));
        edge(words, "the press is 1 in the step 0", () -> due(1, shop(teeth(3, 0), teeth(0, 0)).pair(0, 1, 0, 4, 3)));
        edge(words, "the press is 0 in the last one of 552 steps alone",
            () -> due(0, late(24, 23, 3).pair(0, 1, 0, 6, 3)));
        edge(words, "the press is 1 in the last one of 552 steps",
            () -> due(1, late(24, 23, 3).pair(0, 1, 0, 7, 3)));
        edge(words, "presses are high enough, but one is not smooth", () -> due(0, isSmooth(6, 0, 0, 7)));
        edge(words, "all are smooth, but one is too low", () -> due(0, shop(teeth(1, 0), teeth(0, 0)).pair(0, 1, 0, 1, 3)));
    }

    private static void pair() {
        head("Promise 11: pair");
        edge("1 the least press and 100", "in the step 0 alone", () -> due(96, shop(teeth(9, 0), teeth(0, 0))
            .pair(0, 1, 0, 5, 1)));
        edge("1 the least press and 100", "in the last one of 552 steps alone",
            () -> due(101, late(24, 23, 3).pair(0, 1, 0, 7, 1)));
        edge("2 the greatest press and 100", "in the step 0 alone", () -> due(114, shop(teeth(-9, 0), teeth(0, 0))
            .pair(0, 1, 0, 5, 2)));
        edge("2 the greatest press and 100", "in the last one of 552 steps alone",
            () -> due(113, late(24, 23, -3).pair(0, 1, 0, 7, 2)));
        edge("1 the least press and 100", "in the step 1 alone", () -> due(96, shop(teeth(0, 9), teeth(0, 0))
            .pair(0, 1, 0, 5, 1)));
        edge("2 the greatest press and 100", "in the step 1 alone", () -> due(114, shop(teeth(0, -9), teeth(0, 0))
            .pair(0, 1, 0, 5, 2)));
        edge("1 the least press and 100", "of a short turn asked behind a long one", () -> due(105, behindLong(9, 1)));
        edge("2 the greatest press and 100", "of a short turn asked behind a long one", () -> due(105, behindLong(-9, 2)));
        edge("1 the least press and 100", "all the same", () -> due(105, flat(2, 3).pair(0, 1, 0, 5, 1)));
        edge("2 the greatest press and 100", "all the same", () -> due(105, flat(2, 3).pair(0, 1, 0, 5, 2)));
        edge("0 the steps of a turn", "a short turn asked behind a long one", () -> {
            RollerMesh x = flat(23, 24, 2, 2);
            x.pair(0, 1, 0, 5, 0);
            due(2, x.pair(2, 3, 0, 5, 0));
        });
        edge("3 whether it meshes (1 or 0)", "1", () -> due(1, flat(2, 2).pair(0, 1, 0, 1, 3)));
        edge("3 whether it meshes (1 or 0)", "0", () -> due(0, flat(2, 2).pair(0, 1, 0, 0, 3)));
        edge("3 whether it meshes (1 or 0)", "by what was set and filed since", () -> {
            RollerMesh x = flat(2, 2);
            due("at first", 1, x.pair(0, 1, 0, 9, 3));
            x.file(1, 0, 6);
            due("filed", 1, x.pair(0, 1, 0, 9, 3));
            x.set(SLACK, 5);
            due("set", 0, x.pair(0, 1, 0, 9, 3));
            x.undo();
            due("undone", 1, x.pair(0, 1, 0, 9, 3));
        });
    }

    /** Something about a flat pair with a turn of 2 steps, asked behind that of one with 6 whose teeth are not flat. */
    private static int behindLong(int height, int what) {
        RollerMesh x = shop(teeth(height, height, height), teeth(height, height), teeth(0, 0), teeth(0, 0));
        x.pair(0, 1, 0, 5, what);
        return x.pair(2, 3, 0, 5, what);
    }

    private static void why() {
        head("Promise 12: why");
        edge("1 the press is below 1", "it is 0", () -> due(1, flat(2, 2).why(0, 1, 0, 0, 0)));
        edge("1 the press is below 1", "it is 1", () -> due(0, flat(2, 2).why(0, 1, 0, 1, 0)));
        edge("1 the press is below 1", "it is -18", () -> due(1, shop(teeth(9, 9), teeth(9, 9)).why(0, 1, 0, 0, 0)));
        edge("2 it is not smooth", "by 1 more than SLACK", () -> due(2, shop(teeth(0, 7), teeth(0, 0)).why(0, 1, 0, 30, 0)));
        edge("2 it is not smooth", "by SLACK", () -> due(0, shop(teeth(0, 6), teeth(0, 0)).why(0, 1, 0, 30, 0)));
        edge("(1, if both are so)", "both in the step 0", () -> due(1, shop(teeth(7, 0), teeth(0, 0)).why(0, 1, 0, 7, 0)));
        edge("(1, if both are so)", "but a press of 1 is not too low",
            () -> due(2, shop(teeth(7, 0), teeth(0, 0)).why(0, 1, 0, 8, 0)));
        edge("(1, if both are so)", "both in the last step", () -> {
            // Presses by the gap 7: 1, 3, 5, 0 and the last differs by 5 from the one ahead, the step 0 by 1.
            RollerMesh x = shop(teeth(6, 4, 2, 7), teeth(0, 0));
            x.set(SLACK, 4);
            due("the reason", 1, x.why(0, 1, 0, 7, 0));
            due("the step", 3, x.why(0, 1, 0, 7, 1));
        });
        edge("0 the reason:", "there is none", () -> due(0, flat(2, 2).why(0, 1, 23, 30, 0)));
        edge("0 if it meshes", "it meshes", () -> due(0, flat(2, 2).why(0, 1, 0, 5, 0)));
        edge("1 the step (NONE if it meshes)", "it meshes", () -> due(NONE, flat(2, 2).why(0, 1, 0, 5, 1)));
        edge("1 the step (NONE if it meshes)", "the step 0, which is not NONE", () -> due(0, flat(2, 2).why(0, 1, 0, 0, 1)));
    }

    private static void whyOfSteps() {
        String words = "the first step of a turn that speaks against it";
        edge(words, "the last one of 552 steps", () -> due(551, late(24, 23, 3).why(0, 1, 0, 6, 1)));
        edge(words, "of two that are too low", () -> due(1, shop(teeth(0, 5, 5), teeth(0, 0)).why(0, 1, 0, 5, 1)));
        edge(words, "not smooth ahead of too low", () -> {
            // Presses by the gap 9: 4, 4, 9, 5, 3, 0: the step 2 is not smooth, the step 5 is too low.
            RollerMesh x = shop(teeth(5, 5, 0, 4, 6, 9), teeth(0, 0));
            x.set(SLACK, 4);
            due("the reason", 2, x.why(0, 1, 0, 9, 0));
            due("the step", 2, x.why(0, 1, 0, 9, 1));
            x.set(SLACK, 5);
            due("the reason with more slack", 1, x.why(0, 1, 0, 9, 0));
            due("the step with more slack", 5, x.why(0, 1, 0, 9, 1));
        });
        edge(words, "too low ahead of not smooth", () -> {
            // Presses by the gap 4: 2, 0, 2, 7, 4, 3: the step 1 is too low, the step 3 is not smooth.
            RollerMesh x = shop(teeth(2, 4, 2, -3, 0, 1), teeth(0, 0));
            x.set(SLACK, 4);
            due("the reason", 1, x.why(0, 1, 0, 4, 0));
            due("the step", 1, x.why(0, 1, 0, 4, 1));
            due("the reason with more gap", 2, x.why(0, 1, 0, 5, 0));
            due("the step with more gap", 3, x.why(0, 1, 0, 5, 1));
        });
        edge(words, "not smooth in the last step alone", () -> {
            // Presses by the gap 9: 5, 7, 9, 4.
            RollerMesh x = shop(teeth(4, 2, 0, 5), teeth(0, 0));
            x.set(SLACK, 4);
            due("the reason", 2, x.why(0, 1, 0, 9, 0));
            due("the step", 3, x.why(0, 1, 0, 9, 1));
        });
    }

    private static void leastGap() {
        head("Promise 13: leastGap");
        String words = "Finds the least gap, 0 to 30, with which a pair meshes.";
        edge(words, "0 gives a press of 1", () -> due(0, shop(teeth(-1, -1), teeth(0, 0)).leastGap(0, 1, 0)));
        edge(words, "0 gives a press of 0", () -> due(1, flat(2, 2).leastGap(0, 1, 0)));
        edge(words, "0 gives a press of 18", () -> due(0, shop(teeth(-9, -9), teeth(-9, -9)).leastGap(0, 1, 0)));
        edge(words, "the greatest there can be", () -> due(19, shop(teeth(9, 9), teeth(9, 9)).leastGap(0, 1, 0)));
        edge(words, "by the last one of 552 steps alone", () -> due(7, late(24, 23, 3).leastGap(0, 1, 0)));
        edge(words, "by the offset", () -> due(4, shop(teeth(3, 0), teeth(3, 0)).leastGap(0, 1, 1)));
        edge("Returns the gap", "0, which is not NONE", () -> due(0, shop(teeth(-9, -9), teeth(8, 8)).leastGap(0, 1, 0)));
        edge("NONE if there is none", "the step 0 is not smooth", () -> due(NONE, shop(teeth(0, 7), teeth(0, 0))
            .leastGap(0, 1, 0)));
        edge("NONE if there is none", "just smooth", () -> due(7, shop(teeth(0, 6), teeth(0, 0)).leastGap(0, 1, 0)));
        edge("NONE if there is none", "the step 0 alone is not smooth", () -> {
            RollerMesh x = shop(teeth(0, 1, 2, 3), teeth(0, 0));
            x.set(SLACK, 2);
            due(NONE, x.leastGap(0, 1, 0));
        });
        edge("NONE if there is none", "the last step alone is not smooth", () -> {
            RollerMesh x = shop(teeth(4, 2, 0, 5), teeth(0, 0));
            x.set(SLACK, 4);
            due(NONE, x.leastGap(0, 1, 0));
        });
        edge("NONE if there is none", "not with 0, which would be high enough", () -> {
            RollerMesh x = shop(teeth(-9, -2), teeth(0, 0));
            due(NONE, x.leastGap(0, 1, 0));
        });
    }

    private static void bestOffset() {
        head("Promise 14: bestOffset");
        String words = "Finds the offset, 0 to 23, with which a pair meshes by the least gap, of several the lowest one.";
        edge(words, "all are alike", () -> due(0, flat(24, 24).bestOffset(0, 1, 0)));
        edge(words, "0 alone", () -> due(0, shop(teeth(3, 0), teeth(0, 3)).bestOffset(0, 1, 0)));
        edge(words, "1 and each second one behind it", () -> due(1, shop(teeth(3, 0), teeth(3, 0)).bestOffset(0, 1, 0)));
        edge(words, "1 and 2 of 3", () -> due(1, shop(teeth(3, 0, 0), teeth(3, 0, 0)).bestOffset(0, 1, 0)));
        edge(words, "the last of 3", () -> due(2, shop(teeth(3, 0, 0), teeth(3, 3, 0)).bestOffset(0, 1, 0)));
        edge(words, "23 alone", () -> due(23, deepAt(23).bestOffset(0, 1, 0)));
        edge(words, "22 alone", () -> due(22, deepAt(22).bestOffset(0, 1, 0)));
        edge("0 the offset", "0, which is not NONE", () -> due(0, flat(2, 2).bestOffset(0, 1, 0)));
        edge("1 that gap", "of 23 alone", () -> due(6, deepAt(23).bestOffset(0, 1, 1)));
        edge("1 that gap", "0", () -> due(0, shop(teeth(-9, -9), teeth(-9, -9)).bestOffset(0, 1, 1)));
        edge("1 that gap", "the greatest there can be", () -> due(19, shop(teeth(9, 9), teeth(9, 9)).bestOffset(0, 1, 1)));
        edge(words, "several mesh by a gap of 0, though one presses less",
            () -> due(0, shop(teeth(-5, -8), teeth(-5, -8)).bestOffset(0, 1, 0)));
    }

    /** A lower roller that is deep at one tooth alone: there the high tooth of the upper one, 0, has its best place. */
    private static RollerMesh deepAt(int tooth) {
        RollerMesh x = fresh();
        x.set(SLACK, 30);
        x.roller(24, 0);
        x.roller(24, 5);
        x.file(0, 0, 9);
        x.file(1, tooth, -9);
        return x;
    }

    private static void bestOffsetSmooth() {
        // By the offsets 0 to 3 the least gaps are 4, 3, 5 and 4, and the greatest differences 4, 5, 5 and 6.
        int[] upper = teeth(4, 1, -1, 3);
        int[] lower = teeth(-1, -2, 0, -2);
        String words = "with which a pair meshes by the least gap";
        edge(words, "that with the least gap is just smooth", () -> due(1, bestWithSlack(5, 0, upper, lower)));
        edge(words, "that with the least gap is not smooth", () -> due(0, bestWithSlack(4, 0, upper, lower)));
        edge("1 that gap", "not that of one that is not smooth", () -> due(4, bestWithSlack(4, 1, upper, lower)));
        edge("NONE if it meshes with none", "the offset", () -> due(NONE, bestWithSlack(3, 0, upper, lower)));
        edge("NONE if it meshes with none", "the gap", () -> due(NONE, bestWithSlack(3, 1, upper, lower)));
        edge("NONE if it meshes with none", "the step 0 alone is not smooth by each offset",
            () -> due(NONE, bestWithSlack(2, 0, teeth(0, 1, 2, 3), teeth(0, 0))));
        edge("NONE if it meshes with none", "with the last offset alone it does",
            () -> due(2, bestWithSlack(0, 0, teeth(4, 3, 2), teeth(1, 2, 0))));
    }

    private static int bestWithSlack(int slack, int what, int[] upper, int[] lower) {
        RollerMesh x = shop(upper, lower);
        x.set(SLACK, slack);
        return x.bestOffset(0, 1, what);
    }

    private static void thickest() {
        head("Promise 15: thickest");
        String words = "Finds the greatest thickness, 1 to 30,";
        edge(words, "1", () -> due(1, thickestOf(0, 4, 1, teeth(0, 0))));
        edge(words, "2", () -> due(2, thickestOf(0, 4, 2, teeth(0, 0))));
        edge(words, "29", () -> due(29, thickestOf(0, 4, 29, teeth(0, 0))));
        edge(words, "30", () -> due(30, thickestOf(0, 4, 30, teeth(0, 0))));
        edge("Returns the thickness", "1, as the card of now tears", () -> {
            RollerMesh x = flat(2, 2);
            x.card(30, 0);
            due(1, x.thickest(0, 1, 0, 1));
        });
        edge(words, "31 would do, too", () -> due(30, thickestOf(1, 4, 30, teeth(0, 0))));
        String strength = "a card with the strength of that of now";
        edge(strength, "0", () -> due(5, thickestOf(0, 4, 5, teeth(0, 0))));
        edge(strength, "30", () -> due(30, thickestOf(30, 4, 1, teeth(0, 0))));
        edge(strength, "29, just enough", () -> due(30, thickestOf(29, 4, 1, teeth(0, 0))));
        edge(strength, "28, not enough", () -> due(29, thickestOf(28, 4, 1, teeth(0, 0))));
        edge(strength, "whatever its thickness", () -> {
            RollerMesh x = flat(2, 2);
            x.card(30, 0);
            due(5, x.thickest(0, 1, 0, 5));
        });
        edge("would not tear", "by the pull, as much as PULL", () -> due(30, thickestOf(30, 4, 5, teeth(0, 4))));
        edge("would not tear", "by the pull, more than PULL", () -> due(5, thickestOf(30, 4, 6, teeth(0, 5))));
        edge("would not tear", "by the pull, with PULL 0", () -> due(1, thickestOf(30, 0, 6, teeth(0, 5))));
        edge("NONE if there is none, or the pair does not mesh", "the press is 0",
            () -> due(NONE, thickestOf(30, 30, 5, teeth(0, 5))));
        edge("NONE if there is none, or the pair does not mesh", "the press is 1",
            () -> due(30, thickestOf(30, 30, 6, teeth(0, 5))));
        edge("NONE if there is none, or the pair does not mesh", "it is not smooth",
            () -> due(NONE, thickestOf(30, 30, 30, teeth(0, 7))));
        // A pair that meshes presses by 1 at least, so that a card of the thickness 1 is never pressed.
        edge("NONE if there is none, or the pair does not mesh", "the least card is always there",
            () -> due(1, thickestOf(0, 0, 19, teeth(9, 9), teeth(9, 9))));
    }

    private static int thickestOf(int strength, int pull, int gap, int[] upper) {
        return thickestOf(strength, pull, gap, upper, teeth(0, 0));
    }

    private static int thickestOf(int strength, int pull, int gap, int[] upper, int[] lower) {
        RollerMesh x = shop(upper, lower);
        x.card(3, strength);
        x.set(PULL, pull);
        return x.thickest(0, 1, 0, gap);
    }

    private static void thickestTurn() {
        String words = "in one turn of a pair, from the step 0 on";
        // Between the last step and the step 0 lies 6, but the card is through there.
        edge(words, "the step behind the last one does not count", () -> due(30, thickestOf(30, 2, 7, teeth(0, 2, 4, 6))));
        edge(words, "nor is the first step pulled", () -> due(30, thickestOf(30, 2, 7, teeth(6, 4, 2, 0))));
        edge(words, "the last step counts", () -> due(4, thickestOf(3, 30, 7, teeth(0, 2, 4, 6))));
        edge(words, "the step 0 counts", () -> due(4, thickestOf(3, 30, 7, teeth(6, 4, 2, 0))));
        edge(words, "the last one of 552 steps alone", () -> {
            RollerMesh x = late(24, 23, 3);
            x.card(5, 0);
            due(1, x.thickest(0, 1, 0, 7));
        });
        edge(words, "not the last one of 552 steps, with an offset", () -> {
            RollerMesh x = late(24, 23, 3);
            x.card(5, 0);
            due(1, x.thickest(0, 1, 22, 7));
        });
        edge(words, "the step 0 again behind a run that ended elsewhere", () -> {
            RollerMesh x = shop(teeth(0, 2, 4, 6), teeth(0, 0));
            x.card(1, 30);
            x.set(PULL, 2);
            x.run(0, 1, 0, 7, 1, 3);
            due(30, x.thickest(0, 1, 0, 7));
        });
    }

    private static void nothingChanges() {
        head("Texts");
        String words = "---- pairs; nothing changes.";
        for (int what = 0; what <= 3; what++) {
            int asked = what;
            harmless(words, "pair, what " + what, Edges::used, x -> x.pair(0, 1, 3, 9, asked));
        }
        harmless(words, "why, the reason", Edges::used, x -> x.why(0, 1, 3, 0, 0));
        harmless(words, "why, the step", Edges::used, x -> x.why(0, 1, 3, 0, 1));
        harmless(words, "leastGap", Edges::used, x -> x.leastGap(0, 1, 3));
        harmless(words, "bestOffset, the offset", Edges::used, x -> x.bestOffset(0, 1, 0));
        harmless(words, "bestOffset, the gap", Edges::used, x -> x.bestOffset(0, 1, 1));
        harmless(words, "thickest", Edges::used, x -> x.thickest(0, 1, 3, 9));
        harmless(words, "thickest that finds none", Edges::used, x -> x.thickest(0, 1, 3, 0));
    }
}
