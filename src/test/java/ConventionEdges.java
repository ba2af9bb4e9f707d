/** The boundary cases that the document names ahead of its promises: numbers, the order of errors, refused calls. */
final class ConventionEdges extends Edges {
    private ConventionEdges() {
    }

    static void add() {
        calls();
        codes();
        orderOfErrors();
        orderOfErrorsOfPairs();
        refusedChanges();
        refusedLooks();
        refusedTexts();
        none();
        numbering();
    }

    private static void calls() {
        head("What it is");
        String words = "An object is used for at most 512 calls after it has been made";
        edge(words, "after the greatest runs, the 512th call", () -> {
            RollerMesh x = flat(2, 2);
            for (int call = 3; call <= 511; call++) {
                x.run(0, 1, 0, 30, 99, 99);
            }
            due(509 * 9801, x.count(5));
        });
        edge(words, "after changes alone, the 511th and the 512th call", () -> {
            RollerMesh x = fresh();
            for (int call = 1; call <= 510; call++) {
                x.card(1 + call % 30, 0);
            }
            due("undo", 5, x.undo());
            due("the card of the 509th call", 1 + 509 % 30, x.count(1));
        });
    }

    private static void codes() {
        head("Terms");
        edge("NO_SUCH (-1)", "its number", () -> due(-1, RollerMesh.NO_SUCH));
        edge("BAD_VALUE (-2)", "its number", () -> due(-2, RollerMesh.BAD_VALUE));
        edge("BAD_TEXT (-3)", "its number", () -> due(-3, RollerMesh.BAD_TEXT));
        edge("TOO_MANY (-4)", "its number", () -> due(-4, RollerMesh.TOO_MANY));
        edge("NOT_POSSIBLE (-5)", "its number", () -> due(-5, RollerMesh.NOT_POSSIBLE));
        edge("NONE (-6)", "its number", () -> due(-6, RollerMesh.NONE));
        head("Texts");
        edge("`NO_SUCH = -1, BAD_VALUE = -2, BAD_TEXT = -3, TOO_MANY = -4, NOT_POSSIBLE = -5, NONE = -6`: "
            + "Error codes, and NONE: there is none.", "all of them are below each number that is told", () -> {
                int greatest = Math.max(Math.max(RollerMesh.NO_SUCH, RollerMesh.BAD_VALUE), Math.max(RollerMesh.BAD_TEXT,
                    Math.max(RollerMesh.TOO_MANY, Math.max(RollerMesh.NOT_POSSIBLE, RollerMesh.NONE))));
                due(-1, greatest);
            });
        edge("`SLACK = 0, PULL = 1, WEAR = 2`: Settings.", "SLACK", () -> due(0, RollerMesh.SLACK));
        edge("`SLACK = 0, PULL = 1, WEAR = 2`: Settings.", "PULL", () -> due(1, RollerMesh.PULL));
        edge("`SLACK = 0, PULL = 1, WEAR = 2`: Settings.", "WEAR", () -> due(2, RollerMesh.WEAR));
    }

    private static void orderOfErrors() {
        head("Terms");
        String words = "it names its errors in the order in which they are checked, and the first one that applies is"
            + " returned";
        edge(words, "roller: too few teeth, of 8 rollers", () -> due(BAD_VALUE, eightRollers().roller(1, 0)));
        edge(words, "roller: too many teeth, of 8 rollers", () -> due(BAD_VALUE, eightRollers().roller(25, 0)));
        edge(words, "roller: too deep, of 8 rollers", () -> due(BAD_VALUE, eightRollers().roller(2, -10)));
        edge(words, "roller: too high, of 8 rollers", () -> due(BAD_VALUE, eightRollers().roller(2, 10)));
        edge(words, "file: no such roller, too high", () -> due(NO_SUCH, flat(2).file(1, 0, 10)));
        edge(words, "file: no such tooth, too high", () -> due(NO_SUCH, flat(2).file(0, 2, 10)));
        edge(words, "file: no such roller, too deep", () -> due(NO_SUCH, flat(2).file(-1, 0, -10)));
        edge(words, "file: no such tooth, too deep", () -> due(NO_SUCH, flat(2).file(0, -1, -10)));
        edge(words, "of: no such roller, what out of range", () -> due(NO_SUCH, flat(2).of(1, 7)));
        edge(words, "put: a bad character, for a full pad", () -> due(BAD_VALUE, fullPad().put(32)));
        edge(words, "put: no character, for a full pad", () -> due(BAD_VALUE, fullPad().put(0)));
        edge(words, "put: a bit too high, for a full pad", () -> due(BAD_VALUE, fullPad().put(1L << 16 | 'm')));
        edge(words, "restore: no such slot, nothing saved", () -> due(BAD_VALUE, fresh().restore(2)));
    }

    private static void orderOfErrorsOfPairs() {
        String words = "it names its errors in the order in which they are checked, and the first one that applies is"
            + " returned";
        edge(words, "run: no such upper one, all else wrong", () -> due(NO_SUCH, flat(2, 2).run(2, 0, 24, 31, 0, 0)));
        edge(words, "run: no such lower one, all else wrong", () -> due(NO_SUCH, flat(2, 2).run(0, 2, 24, 31, 0, 0)));
        edge(words, "run: twice the same that is not there", () -> due(NO_SUCH, flat(2, 2).run(2, 2, 0, 5, 1, 1)));
        // With the gap 0 flat rollers do not mesh.
        edge(words, "run: the same roller, does not mesh", () -> due(BAD_VALUE, flat(2, 2).run(0, 0, 0, 0, 1, 1)));
        edge(words, "run: a bad offset, does not mesh", () -> due(BAD_VALUE, flat(2, 2).run(0, 1, 24, 0, 1, 1)));
        edge(words, "run: no cards, does not mesh", () -> due(BAD_VALUE, flat(2, 2).run(0, 1, 0, 0, 0, 1)));
        edge(words, "run: too many cards, does not mesh", () -> due(BAD_VALUE, flat(2, 2).run(0, 1, 0, 0, 100, 1)));
        edge(words, "run: no steps, does not mesh", () -> due(BAD_VALUE, flat(2, 2).run(0, 1, 0, 0, 1, 0)));
        edge(words, "run: too many steps, does not mesh", () -> due(BAD_VALUE, flat(2, 2).run(0, 1, 0, 0, 1, 100)));
        head("Texts");
        words = "Errors of all: NO_SUCH if there is no such roller; BAD_VALUE if another argument is out of range, or"
            + " both rollers are the same.";
        edge(words, "pair: no such upper one, all else wrong", () -> due(NO_SUCH, flat(2, 2).pair(2, 0, 24, 31, 4)));
        edge(words, "pair: no such lower one, all else wrong", () -> due(NO_SUCH, flat(2, 2).pair(0, 2, 24, 31, 4)));
        edge(words, "pair: twice the same that is not there", () -> due(NO_SUCH, flat(2, 2).pair(2, 2, 0, 5, 0)));
        edge(words, "why: no such upper one, all else wrong", () -> due(NO_SUCH, flat(2, 2).why(-1, 0, -1, -1, 2)));
        edge(words, "why: no such lower one, all else wrong", () -> due(NO_SUCH, flat(2, 2).why(0, -1, -1, -1, -1)));
        edge(words, "why: twice the same that is not there", () -> due(NO_SUCH, flat(2, 2).why(2, 2, 0, 5, 0)));
        edge(words, "leastGap: no such upper one, a bad offset", () -> due(NO_SUCH, flat(2, 2).leastGap(2, 0, 24)));
        edge(words, "leastGap: no such lower one, a bad offset", () -> due(NO_SUCH, flat(2, 2).leastGap(0, 2, -1)));
        edge(words, "leastGap: twice the same that is not there", () -> due(NO_SUCH, flat(2, 2).leastGap(2, 2, 0)));
        edge(words, "bestOffset: no such upper one, a bad what", () -> due(NO_SUCH, flat(2, 2).bestOffset(2, 0, 2)));
        edge(words, "bestOffset: no such lower one, a bad what", () -> due(NO_SUCH, flat(2, 2).bestOffset(0, 2, -1)));
        edge(words, "bestOffset: twice the same that is not there", () -> due(NO_SUCH, flat(2, 2).bestOffset(2, 2, 0)));
        edge(words, "thickest: no such upper one, all else wrong", () -> due(NO_SUCH, flat(2, 2).thickest(2, 0, 24, 31)));
        edge(words, "thickest: no such lower one, all else wrong", () -> due(NO_SUCH, flat(2, 2).thickest(0, 2, -1, -1)));
        edge(words, "thickest: twice the same that is not there", () -> due(NO_SUCH, flat(2, 2).thickest(2, 2, 0, 5)));
    }

    private static RollerMesh fullPad() {
        return written(repeated("m0;", 26) + "m0");
    }

    private static void refusedChanges() {
        head("Terms");
        refused("set, no such setting", BAD_VALUE, Edges::used, x -> x.set(3, 5));
        refused("set, a value too small", BAD_VALUE, Edges::used, x -> x.set(WEAR, 0));
        refused("set, a value too large", BAD_VALUE, Edges::used, x -> x.set(SLACK, 31));
        refused("roller, too few teeth", BAD_VALUE, Edges::used, x -> x.roller(1, 0));
        refused("roller, too high", BAD_VALUE, Edges::used, x -> x.roller(2, 10));
        refused("roller, a ninth one", TOO_MANY, Edges::eightRollers, x -> x.roller(3, 1));
        refused("file, no such roller", NO_SUCH, Edges::used, x -> x.file(2, 0, 1));
        refused("file, no such tooth", NO_SUCH, Edges::used, x -> x.file(0, 2, 1));
        refused("file, too high", BAD_VALUE, Edges::used, x -> x.file(0, 0, 10));
        refused("file, too deep", BAD_VALUE, Edges::used, x -> x.file(0, 0, -10));
        refused("melt, no such roller", NO_SUCH, Edges::used, x -> x.melt(2));
        refused("card, too thick", BAD_VALUE, Edges::used, x -> x.card(31, 1));
        refused("card, a good thickness, too strong", BAD_VALUE, Edges::used, x -> x.card(1, 31));
        refused("run, no such roller", NO_SUCH, Edges::used, x -> x.run(0, 2, 0, 9, 5, 5));
        refused("run, a bad offset", BAD_VALUE, Edges::used, x -> x.run(0, 1, 24, 9, 5, 5));
        refused("run, no steps", BAD_VALUE, Edges::used, x -> x.run(0, 1, 0, 9, 5, 0));
        refused("run, the same roller", BAD_VALUE, Edges::used, x -> x.run(1, 1, 0, 9, 5, 5));
        refused("run, they do not mesh", NOT_POSSIBLE, Edges::used, x -> x.run(0, 1, 0, 1, 99, 99));
        refused("undo, nothing to undo", NOT_POSSIBLE, Edges::undone, RollerMesh::undo);
        refused("save, no such slot", BAD_VALUE, Edges::used, x -> x.save(2));
        refused("restore, no such slot", BAD_VALUE, Edges::used, x -> x.restore(2));
        refused("restore, nothing saved", NOT_POSSIBLE, Edges::used, x -> x.restore(1));
    }

    private static void refusedLooks() {
        refused("of, no such roller", NO_SUCH, Edges::used, x -> x.of(2, 0));
        refused("of, a bad what", BAD_VALUE, Edges::used, x -> x.of(0, 7));
        refused("tooth, no such roller", NO_SUCH, Edges::used, x -> x.tooth(2, 0));
        refused("tooth, no such tooth", NO_SUCH, Edges::used, x -> x.tooth(0, 2));
        refused("count, a bad what", BAD_VALUE, Edges::used, x -> x.count(11));
        refused("pair, no such roller", NO_SUCH, Edges::used, x -> x.pair(2, 0, 0, 5, 0));
        refused("pair, a bad what", BAD_VALUE, Edges::used, x -> x.pair(0, 1, 0, 5, 4));
        refused("why, no such roller", NO_SUCH, Edges::used, x -> x.why(2, 0, 0, 5, 0));
        refused("why, a bad what", BAD_VALUE, Edges::used, x -> x.why(0, 1, 0, 5, 2));
        refused("leastGap, no such roller", NO_SUCH, Edges::used, x -> x.leastGap(2, 0, 0));
        refused("leastGap, a bad offset", BAD_VALUE, Edges::used, x -> x.leastGap(0, 1, 24));
        refused("bestOffset, no such roller", NO_SUCH, Edges::used, x -> x.bestOffset(2, 0, 0));
        refused("bestOffset, a bad what", BAD_VALUE, Edges::used, x -> x.bestOffset(0, 1, 2));
        refused("thickest, no such roller", NO_SUCH, Edges::used, x -> x.thickest(2, 0, 0, 5));
        refused("thickest, a bad gap", BAD_VALUE, Edges::used, x -> x.thickest(0, 1, 0, 31));
    }

    private static void refusedTexts() {
        refused("put, no character", BAD_VALUE, Edges::used, x -> x.put(0));
        refused("put, a bad one behind good ones", BAD_VALUE, Edges::used, x -> x.put(Shops.packed(";m0 ")));
        refused("put, a bad one ahead of good ones", BAD_VALUE, Edges::used, x -> x.put(Shops.packed(" ;m0")));
        refused("put, a bit too high", BAD_VALUE, Edges::used, x -> x.put(1L << 40 | Shops.packed(";m0")));
        refused("put, more than fit", TOO_MANY, ConventionEdges::fullPad, x -> x.put('1'));
        refused("put, of which some would fit", TOO_MANY, () -> written(repeated("m0;", 26) + "m"),
            x -> x.put(Shops.packed("0;m0")));
        refused("carryOut, an empty pad", BAD_TEXT, ConventionEdges::usedAndWiped, RollerMesh::carryOut);
        refused("carryOut, a fault behind orders", BAD_TEXT, ConventionEdges::usedWithFault, RollerMesh::carryOut);
    }

    private static RollerMesh usedAndWiped() {
        RollerMesh x = used();
        x.wipe();
        return x;
    }

    private static RollerMesh usedWithFault() {
        RollerMesh x = used();
        Shops.write(x, ";m");
        return x;
    }

    private static void none() {
        head("Terms");
        String words = "NONE (-6) is not an error; it is returned only if no error applies.";
        edge(words, "leastGap finds none", () -> due(NONE, rough().leastGap(0, 1, 0)));
        edge(words, "leastGap would find none, but the offset is bad", () -> due(BAD_VALUE, rough().leastGap(0, 1, 24)));
        edge(words, "leastGap would find none, but it is one roller", () -> due(BAD_VALUE, rough().leastGap(0, 0, 0)));
        edge(words, "bestOffset finds none", () -> due(NONE, rough().bestOffset(0, 1, 0)));
        edge(words, "bestOffset would find none, but what is bad", () -> due(BAD_VALUE, rough().bestOffset(0, 1, 2)));
        edge(words, "bestOffset would find none, but it is one roller",
            () -> due(BAD_VALUE, rough().bestOffset(0, 0, 0)));
        edge(words, "thickest finds none", () -> due(NONE, rough().thickest(0, 1, 0, 30)));
        edge(words, "thickest would find none, but the gap is bad", () -> due(BAD_VALUE, rough().thickest(0, 1, 0, 31)));
        edge(words, "thickest would find none, but the offset is bad",
            () -> due(BAD_VALUE, rough().thickest(0, 1, 24, 30)));
        edge(words, "thickest would find none, but it is one roller",
            () -> due(BAD_VALUE, rough().thickest(0, 0, 0, 30)));
        edge(words, "why finds no step", () -> due(NONE, flat(2, 2).why(0, 1, 0, 5, 1)));
        edge(words, "why would find no step, but what is bad", () -> due(BAD_VALUE, flat(2, 2).why(0, 1, 0, 5, 2)));
        edge(words, "why would find no step, but the gap is bad", () -> due(BAD_VALUE, flat(2, 2).why(0, 1, 0, 31, 1)));
        edge(words, "carryOut of a text without a fault", () -> {
            RollerMesh x = written("m0");
            due("the fault is none", NONE, x.fault());
            due("that is no error of it", 0, x.carryOut());
        });
    }

    /** A pair that meshes by no gap and no offset. */
    private static RollerMesh rough() {
        return shop(teeth(0, 7), teeth(0, 0));
    }

    private static void numbering() {
        String words = "Everything is numbered from 0.";
        edge(words, "the first roller", () -> due(0, fresh().roller(2, 0)));
        edge(words, "the first tooth", () -> due(12, shop(teeth(3, 0)).tooth(0, 0)));
        edge(words, "the first step", () -> due(0, flat(2, 2).why(0, 1, 0, 0, 1)));
        edge(words, "the first offset", () -> due(0, flat(2, 2).bestOffset(0, 1, 0)));
        edge(words, "the first slot", () -> due(0, fresh().save(0)));
        edge(words, "the first setting", () -> due(6, fresh().set(0, 6)));
        edge(words, "the first character", () -> due(0, written("x").fault()));
        edge("Sets of teeth are bit masks.", "the tooth 0", () -> due(1, shop(teeth(1, 0, 0)).of(0, 1)));
        edge("Sets of teeth are bit masks.", "the last of 2 teeth", () -> due(2, shop(teeth(0, -1)).of(0, 2)));
        edge("Sets of teeth are bit masks.", "the last of 24 teeth", () -> {
            RollerMesh x = flat(24);
            x.file(0, 23, 1);
            due(1 << 23, x.of(0, 1));
        });
        edge("Sets of teeth are bit masks.", "no tooth", () -> due(0, flat(24).of(0, 1)));
        edge("Sets of teeth are bit masks.", "all of 24 teeth", () -> {
            RollerMesh x = fresh();
            x.roller(24, 1);
            due((1 << 24) - 1, x.of(0, 1));
        });
    }
}
