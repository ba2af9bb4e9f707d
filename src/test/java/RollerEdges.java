/** The boundary cases of rollers, of their settings, and of the card: promises 1 to 6, 8 to 10. */
final class RollerEdges extends Edges {
    private static final Range TEETH = new Range("the number of teeth", 2, 24, BAD_VALUE);
    private static final Range HEIGHT = new Range("the height", -9, 9, BAD_VALUE);

    private RollerEdges() {
    }

    static void add() {
        rollers();
        newObject();
        settings();
        set();
        roller();
        file();
        melt();
        meltMoves();
        card();
        of();
        ofHeights();
        tooth();
        count();
    }

    private static void rollers() {
        head("Rollers");
        edge("There are up to 8 rollers", "there is none", () -> due(0, fresh().count(0)));
        edge("There are up to 8 rollers", "the eighth comes", () -> due(7, flat(2, 2, 2, 2, 2, 2, 2).roller(2, 0)));
        edge("There are up to 8 rollers", "the ninth does not", () -> due(TOO_MANY, eightRollers().roller(2, 0)));
        edge("There are up to 8 rollers", "8 of 24 teeth each", () -> {
            RollerMesh x = flat(24, 24, 24, 24, 24, 24, 24, 24);
            due("the last tooth of the last one", 9, x.file(7, 23, -9));
            due("it is so then", 0, x.tooth(7, 23));
            due("the one before it is not", 9, x.tooth(7, 22));
            due("nor that of another roller", 9, x.tooth(6, 23));
        });
        edge("numbered in the order in which they came", "the last of 8", () -> {
            RollerMesh x = flat(2, 3, 4, 5, 6, 7, 8, 9);
            for (int roller = 0; roller < 8; roller++) {
                due("teeth of " + roller, 2 + roller, x.of(roller, 0));
            }
        });
        String melted = "(when one is melted, those behind it move up)";
        edge(melted, "the first of 8", () -> same("3 4 5 6 7 8 9 ", teethWithout(0)));
        edge(melted, "one in the middle of 8", () -> same("2 3 4 6 7 8 9 ", teethWithout(3)));
        edge(melted, "the last of 8", () -> same("2 3 4 5 6 7 8 ", teethWithout(7)));
        edge("A roller has 2 to 24 teeth", "2 teeth, the last one", () -> due(9, flat(2).tooth(0, 1)));
        edge("A roller has 2 to 24 teeth", "2 teeth, none behind", () -> due(NO_SUCH, flat(2).tooth(0, 2)));
        edge("A roller has 2 to 24 teeth", "24 teeth, the last one", () -> due(9, flat(24).tooth(0, 23)));
        edge("A roller has 2 to 24 teeth", "24 teeth, none behind", () -> due(NO_SUCH, flat(24).tooth(0, 24)));
        edge("numbered from 0 round it", "the tooth behind the last one is the first one", () -> {
            RollerMesh x = shop(teeth(3, 0), teeth(0, 0, 3));
            due(2, x.why(0, 1, 0, 6, 1));
        });
        edge("each of a height, -9 to 9", "both ends side by side", () -> same("-9,9", Shops.heights(
            shop(teeth(-9, 9)), 0)));
        edge("(above 0 high, below 0 deep)", "0 is not high", () -> due(0, flat(2).of(0, 1)));
        edge("(above 0 high, below 0 deep)", "0 is not deep", () -> due(0, flat(2).of(0, 2)));
        edge("(above 0 high, below 0 deep)", "1 is high", () -> due(2, shop(teeth(0, 1)).of(0, 1)));
        edge("(above 0 high, below 0 deep)", "-1 is deep", () -> due(2, shop(teeth(0, -1)).of(0, 2)));
    }

    private static String teethWithout(int melted) {
        RollerMesh x = flat(2, 3, 4, 5, 6, 7, 8, 9);
        x.melt(melted);
        StringBuilder text = new StringBuilder();
        for (int roller = 0; x.of(roller, 0) != NO_SUCH; roller++) {
            text.append(x.of(roller, 0)).append(' ');
        }
        return text.toString();
    }

    private static void newObject() {
        head("Promise 1: A new object");
        edge("Creates a shop without rollers", "none is there", () -> due(0, fresh().count(0)));
        edge("Creates a shop without rollers", "not even the first", () -> due(NO_SUCH, fresh().of(0, 0)));
        edge("Creates a shop without rollers", "no tooth", () -> due(NO_SUCH, fresh().tooth(0, 0)));
        edge("Creates a shop without rollers", "nothing to melt", () -> due(NO_SUCH, fresh().melt(0)));
        edge("Creates a shop without rollers", "nothing to file", () -> due(NO_SUCH, fresh().file(0, 0, 0)));
        edge("Creates a shop without rollers", "no pair", () -> due(NO_SUCH, fresh().pair(0, 1, 0, 0, 0)));
        edge("Creates a shop without rollers", "no run", () -> due(NO_SUCH, fresh().run(0, 1, 0, 9, 1, 1)));
        edge("Creates a shop without rollers", "however many another shop has", () -> {
            eightRollers();
            due(0, fresh().count(0));
        });
        edge("the card of now has the thickness 5", "it is 5", () -> due(5, fresh().count(1)));
        edge("and the strength 5", "it is 5", () -> due(5, fresh().count(2)));
        edge("and the strength 5", "5 more than the press do not tear it", () -> due(6, flat(2, 2).thickest(0, 1, 0, 1)));
    }

    private static void settings() {
        head("Settings");
        edge("SLACK (0 to 30; 6)", "its first value", () -> due(6, fresh().count(6)));
        edge("PULL (0 to 30; 4)", "its first value", () -> due(4, fresh().count(7)));
        edge("WEAR (1 to 99; 20)", "its first value", () -> due(20, fresh().count(8)));
        new Range("SLACK", 0, 30, BAD_VALUE).edges("SLACK (0 to 30; 6)", 0, 30, value -> setTwice(SLACK, value));
        new Range("PULL", 0, 30, BAD_VALUE).edges("PULL (0 to 30; 4)", 0, 30, value -> setTwice(PULL, value));
        new Range("WEAR", 1, 99, BAD_VALUE).edges("WEAR (1 to 99; 20)", 1, 99, value -> setTwice(WEAR, value));
        edge("how many turns wear a tooth down", "1 turn of 2 teeth", () -> due(1, wornBy(1, 2, 1, 2)));
        edge("how many turns wear a tooth down", "less than 1 turn of 2 teeth", () -> due(0, wornBy(1, 2, 1, 1)));
        edge("how many turns wear a tooth down", "99 turns of 24 teeth", () -> due(1, wornBy(99, 24, 24, 99)));
        edge("how many turns wear a tooth down", "99 turns of 24 teeth, less 1", () -> due(0, wornBy(99, 24, 25, 95)));
    }

    /** The value that was set, or the error. */
    private static int setTwice(int setting, int value) {
        RollerMesh x = fresh();
        int answer = x.set(setting, value);
        return answer < 0 ? answer : x.set(setting, 1);
    }

    /** How often a roller was worn by a run. */
    private static int wornBy(int wear, int teeth, int cards, int steps) {
        RollerMesh x = flat(teeth, 2);
        x.set(WEAR, wear);
        x.run(0, 1, 0, 30, cards, steps);
        return x.of(0, 6);
    }

    private static void set() {
        head("Promise 2: set");
        isChange(x -> x.set(WEAR, 99));
        edge("Changes a setting.", "to what it was", () -> due(4, setTwice(PULL, 4)));
        edge("Returns the previous value", "the first one", () -> due(4, fresh().set(PULL, 30)));
        edge("Returns the previous value", "0, which is no error", () -> {
            RollerMesh x = fresh();
            x.set(SLACK, 0);
            due(0, x.set(SLACK, 0));
        });
        edge("Returns the previous value", "one setting leaves the others", () -> {
            RollerMesh x = fresh();
            x.set(PULL, 9);
            same("6 9 20", x.count(6) + " " + x.count(7) + " " + x.count(8));
        });
        edge("Returns the previous value", "the previous one after an undo", () -> {
            RollerMesh x = fresh();
            x.set(PULL, 9);
            x.undo();
            due(4, x.set(PULL, 9));
        });
        new Range("the setting", 0, 2, BAD_VALUE).edges("BAD_VALUE if there is no such setting", 6, 20,
            setting -> fresh().set(setting, 1));
        edge("or the value is out of its range", "0 is in the range of PULL", () -> due(4, fresh().set(PULL, 0)));
        edge("or the value is out of its range", "but not in that of WEAR", () -> due(BAD_VALUE, fresh().set(WEAR, 0)));
        edge("or the value is out of its range", "31 is in the range of WEAR", () -> due(20, fresh().set(WEAR, 31)));
        edge("or the value is out of its range", "but not in that of SLACK", () -> due(BAD_VALUE, fresh().set(SLACK, 31)));
    }

    private static void roller() {
        head("Promise 3: roller");
        isChange(x -> x.roller(24, -9));
        TEETH.edges("`teeth`: 2 to 24", 0, 0, teeth -> fresh().roller(teeth, 0));
        HEIGHT.edges("`height`: -9 to 9", 0, 0, height -> fresh().roller(2, height));
        edge("A roller comes, all teeth of a height.", "2 of the least one", () -> same("-9,-9", heightsOf(2, -9)));
        edge("A roller comes, all teeth of a height.", "24 of the greatest one",
            () -> same("9" + repeated(",9", 23), heightsOf(24, 9)));
        edge("A roller comes, all teeth of a height.", "where one with other teeth was melted", () -> {
            RollerMesh x = shop(teeth(1, 2, 3, 4));
            x.melt(0);
            x.roller(3, 7);
            same("7,7,7", Shops.heights(x, 0));
        });
        edge("Returns its number", "the first", () -> due(0, fresh().roller(24, 9)));
        edge("Returns its number", "the eighth", () -> due(7, flat(2, 2, 2, 2, 2, 2, 2).roller(24, 9)));
        edge("Returns its number", "the one behind those that are left", () -> {
            RollerMesh x = flat(2, 3, 4);
            x.melt(0);
            due(2, x.roller(5, 0));
        });
        edge("BAD_VALUE if an argument is out of range", "both", () -> due(BAD_VALUE, fresh().roller(1, 10)));
        edge("TOO_MANY if there are 8 rollers", "8", () -> due(TOO_MANY, eightRollers().roller(24, 9)));
        edge("TOO_MANY if there are 8 rollers", "8, then 7", () -> {
            RollerMesh x = eightRollers();
            x.melt(7);
            due(7, x.roller(2, 0));
        });
        edge("TOO_MANY if there are 8 rollers", "8 by an undo", () -> {
            RollerMesh x = eightRollers();
            x.melt(7);
            x.undo();
            due(TOO_MANY, x.roller(2, 0));
        });
        edge("TOO_MANY if there are 8 rollers", "8 by a restore", () -> {
            RollerMesh x = eightRollers();
            x.save(1);
            x.melt(7);
            x.restore(1);
            due(TOO_MANY, x.roller(2, 0));
        });
    }

    private static String heightsOf(int teeth, int height) {
        RollerMesh x = fresh();
        x.roller(teeth, height);
        return Shops.heights(x, 0);
    }

    private static void file() {
        head("Promise 4: file");
        isChange(x -> x.file(1, 2, -9));
        HEIGHT.edges("`height`: -9 to 9", 9, 9, height -> flat(2).file(0, 1, height));
        edge("A tooth becomes another height.", "the first one alone", () -> same("-9,0,0", filed(0, -9)));
        edge("A tooth becomes another height.", "the last one alone", () -> same("0,0,9", filed(2, 9)));
        edge("A tooth becomes another height.", "the same height", () -> same("0,0,0", filed(1, 0)));
        edge("A tooth becomes another height.", "not that of another roller", () -> {
            RollerMesh x = flat(2, 2);
            x.file(0, 1, 5);
            same("0,0", Shops.heights(x, 1));
        });
        edge("Returns the previous height, and 9", "of the least height", () -> due(0, shop(teeth(-9, 0)).file(0, 0, 1)));
        edge("Returns the previous height, and 9", "of the greatest one", () -> due(18, shop(teeth(9, 0)).file(0, 0, 1)));
        edge("Returns the previous height, and 9", "of one that does not change", () -> due(8, shop(teeth(-1, 0))
            .file(0, 0, -1)));
        new Range("the roller", 0, 1, NO_SUCH).edges("NO_SUCH if there is no such roller or tooth", 9, 9,
            roller -> flat(2, 2).file(roller, 0, 1));
        new Range("the tooth of 2", 0, 1, NO_SUCH).edges("NO_SUCH if there is no such roller or tooth", 9, 9,
            tooth -> flat(24, 2).file(1, tooth, 1));
        new Range("the tooth of 24", 0, 23, NO_SUCH).edges("NO_SUCH if there is no such roller or tooth", 9, 9,
            tooth -> flat(2, 24).file(1, tooth, 1));
        edge("BAD_VALUE if height is out of range", "of the last tooth", () -> due(BAD_VALUE, flat(24).file(0, 23, 10)));
    }

    private static String filed(int tooth, int height) {
        RollerMesh x = flat(3);
        x.file(0, tooth, height);
        return Shops.heights(x, 0);
    }

    private static void melt() {
        head("Promise 5: melt");
        isChange(x -> x.melt(0));
        edge("Melts a roller.", "the only one", () -> {
            RollerMesh x = flat(2);
            x.melt(0);
            due(NO_SUCH, x.of(0, 0));
        });
        edge("Melts a roller.", "all of 8", () -> {
            RollerMesh x = eightRollers();
            for (int left = 7; left >= 0; left--) {
                due("melt", left, x.melt(0));
            }
            due("one more", NO_SUCH, x.melt(0));
        });
        edge("Returns how many are left", "none", () -> due(0, flat(2).melt(0)));
        edge("Returns how many are left", "7", () -> due(7, eightRollers().melt(7)));
        new Range("the roller of 8", 0, 7, NO_SUCH).edges("NO_SUCH if there is no such roller", 7, 7,
            roller -> eightRollers().melt(roller));
        edge("NO_SUCH if there is no such roller", "there is none at all", () -> due(NO_SUCH, fresh().melt(0)));
        edge("NO_SUCH if there is no such roller", "one that moved up", () -> {
            RollerMesh x = flat(2, 2);
            x.melt(0);
            due(NO_SUCH, x.melt(1));
        });
    }

    private static void meltMoves() {
        edge("Melts a roller.", "what moves up keeps its steps and its wear", () -> {
            RollerMesh x = flat(5, 2, 3);
            x.set(WEAR, 1);
            x.run(1, 2, 0, 30, 1, 3);
            x.run(1, 2, 0, 30, 1, 1);
            x.melt(0);
            same("1 1 1 1", x.of(0, 5) + " " + x.of(0, 6) + " " + x.of(1, 5) + " " + x.of(1, 6));
        });
        edge("Melts a roller.", "the next one to come has neither", () -> {
            RollerMesh x = flat(2, 3);
            x.set(WEAR, 1);
            x.run(0, 1, 0, 30, 1, 3);
            x.run(0, 1, 0, 30, 1, 1);
            x.melt(1);
            x.roller(3, 0);
            same("0 0", x.of(1, 5) + " " + x.of(1, 6));
        });
        edge("Melts a roller.", "the cards, the torn ones and the steps so far stay", () -> {
            RollerMesh x = shop(teeth(0, 0), teeth(0, 0));
            x.card(30, 0);
            x.run(0, 1, 0, 9, 4, 9);
            x.melt(0);
            x.melt(0);
            same("4 4 4", x.count(3) + " " + x.count(4) + " " + x.count(5));
        });
    }

    private static void card() {
        head("Promise 6: card");
        isChange(x -> x.card(30, 0));
        edge("Changes the card of now.", "to what it was", () -> {
            RollerMesh x = fresh();
            due("the first", 5, x.card(5, 5));
            due("the same", 5, x.card(5, 5));
        });
        new Range("the thickness", 1, 30, BAD_VALUE).edges("`thickness`: 1 to 30", 1, 30, RollerEdges::thicknessSet);
        new Range("the strength", 0, 30, BAD_VALUE).edges("`strength`: 0 to 30", 0, 30, RollerEdges::strengthSet);
        edge("Returns the previous thickness", "the first one", () -> due(5, fresh().card(30, 0)));
        edge("Returns the previous thickness", "not the strength", () -> {
            RollerMesh x = fresh();
            x.card(1, 30);
            due(1, x.card(2, 2));
        });
        edge("BAD_VALUE if an argument is out of range", "both", () -> due(BAD_VALUE, fresh().card(0, 31)));
        head("Cards");
        edge("A card has a thickness (1 to 30) and strength (0 to 30).", "the thinnest and weakest", () -> {
            RollerMesh x = fresh();
            x.card(1, 0);
            same("1 0", x.count(1) + " " + x.count(2));
        });
        edge("A card has a thickness (1 to 30) and strength (0 to 30).", "the thickest and strongest", () -> {
            RollerMesh x = fresh();
            x.card(30, 30);
            same("30 30", x.count(1) + " " + x.count(2));
        });
    }

    private static int thicknessSet(int thickness) {
        RollerMesh x = fresh();
        int answer = x.card(thickness, 5);
        return answer < 0 ? answer : x.count(1);
    }

    private static int strengthSet(int strength) {
        RollerMesh x = fresh();
        int answer = x.card(5, strength);
        return answer < 0 ? answer : x.count(2);
    }

    private static void of() {
        head("Promise 8: of");
        new Range("what", 0, 6, BAD_VALUE).edges("BAD_VALUE if what is out of range", 2, 0, what -> flat(2).of(0, what));
        new Range("the roller of 8", 0, 7, NO_SUCH).edges("NO_SUCH if there is no such roller", 2, 2,
            roller -> eightRollers().of(roller, 0));
        edge("NO_SUCH if there is no such roller", "there is none at all", () -> due(NO_SUCH, fresh().of(0, 0)));
        edge("0 its teeth", "2", () -> due(2, flat(2).of(0, 0)));
        edge("0 its teeth", "24", () -> due(24, flat(24).of(0, 0)));
        edge("1 teeth above 0, as a set", "none", () -> due(0, shop(teeth(0, -1, -9)).of(0, 1)));
        edge("1 teeth above 0, as a set", "all of 3", () -> due(7, shop(teeth(1, 9, 2)).of(0, 1)));
        edge("1 teeth above 0, as a set", "a tooth at 0 between two", () -> due(5, shop(teeth(1, 0, 1)).of(0, 1)));
        String sets = "1 teeth above 0, as a set, 2 teeth below 0, as a set";
        edge(sets, "not of the teeth of the one that was there before", () -> {
            RollerMesh x = shop(teeth(1, 1, 1, -1, -1));
            x.melt(0);
            x.roller(2, 0);
            x.roller(3, 0);
            same("0 0 0 0", x.of(0, 1) + " " + x.of(0, 2) + " " + x.of(1, 1) + " " + x.of(1, 2));
        });
        edge(sets, "not of a tooth behind the last one that was there before", () -> {
            RollerMesh x = shop(teeth(1, 1, 1));
            x.melt(0);
            x.roller(2, -1);
            same("0 3", x.of(0, 1) + " " + x.of(0, 2));
        });
        edge(sets, "of a roller that was worn", () -> {
            RollerMesh x = shop(teeth(2, -2), teeth(0, 0));
            x.set(WEAR, 1);
            x.run(0, 1, 0, 30, 1, 2);
            same("1 2", x.of(0, 1) + " " + x.of(0, 2));
        });
        edge("2 teeth below 0, as a set", "none", () -> due(0, shop(teeth(0, 1, 9)).of(0, 2)));
        edge("2 teeth below 0, as a set", "all of 3", () -> due(7, shop(teeth(-1, -9, -2)).of(0, 2)));
        edge("2 teeth below 0, as a set", "a tooth at 0 between two", () -> due(5, shop(teeth(-1, 0, -1)).of(0, 2)));
        edge("5 steps since it was worn last", "none yet", () -> due(0, flat(2).of(0, 5)));
        edge("5 steps since it was worn last", "one step less than wears it", () -> {
            RollerMesh x = flat(2, 2);
            x.run(0, 1, 0, 30, 1, 39);
            due(39, x.of(0, 5));
        });
        edge("5 steps since it was worn last", "just worn", () -> {
            RollerMesh x = flat(2, 2);
            x.run(0, 1, 0, 30, 1, 40);
            due(0, x.of(0, 5));
        });
        edge("6 how often it was worn", "never", () -> due(0, flat(2).of(0, 6)));
        edge("6 how often it was worn", "never, with teeth that are all high", () -> {
            RollerMesh x = fresh();
            x.roller(24, 9);
            due(0, x.of(0, 6));
        });
        edge("6 how often it was worn", "more often than its teeth are high", () -> {
            RollerMesh x = shop(teeth(2, 1), teeth(0, 0));
            x.set(WEAR, 1);
            for (int run = 0; run < 5; run++) {
                x.run(0, 1, 0, 30, 1, 2);
            }
            due("how often", 5, x.of(0, 6));
            same("0,0", Shops.heights(x, 0));
        });
    }

    private static void ofHeights() {
        String greatest = "3 its greatest height, and 9";
        edge(greatest, "the least there can be", () -> due(0, shop(teeth(-9, -9)).of(0, 3)));
        edge(greatest, "the greatest there can be", () -> due(18, shop(teeth(-9, 9)).of(0, 3)));
        edge(greatest, "at the first tooth", () -> due(7, shop(teeth(-2, -3, -4)).of(0, 3)));
        edge(greatest, "at the last tooth", () -> due(7, shop(teeth(-4, -3, -2)).of(0, 3)));
        String least = "4 its least height, and 9";
        edge(least, "the least there can be", () -> due(0, shop(teeth(9, -9)).of(0, 4)));
        edge(least, "the greatest there can be", () -> due(18, shop(teeth(9, 9)).of(0, 4)));
        edge(least, "at the first tooth", () -> due(11, shop(teeth(2, 3, 4)).of(0, 4)));
        edge(least, "at the last tooth", () -> due(11, shop(teeth(4, 3, 2)).of(0, 4)));
        edge(least, "not of the teeth of the one that was there before", () -> {
            RollerMesh x = shop(teeth(1, 1, -9));
            x.melt(0);
            x.roller(2, 1);
            due(10, x.of(0, 4));
        });
        edge(greatest, "not of the teeth of the one that was there before", () -> {
            RollerMesh x = shop(teeth(1, 1, 9));
            x.melt(0);
            x.roller(2, 1);
            due(10, x.of(0, 3));
        });
    }

    private static void tooth() {
        head("Promise 9: tooth");
        String words = "NO_SUCH if there is no such roller or tooth";
        edge("Returns the height of a tooth, and 9.", "the least", () -> due(0, shop(teeth(0, -9)).tooth(0, 1)));
        edge("Returns the height of a tooth, and 9.", "the greatest", () -> due(18, shop(teeth(9, 0)).tooth(0, 0)));
        new Range("the roller", 0, 1, NO_SUCH).edges(words, 9, 9, roller -> flat(2, 2).tooth(roller, 0));
        new Range("the tooth of 2", 0, 1, NO_SUCH).edges(words, 9, 9, tooth -> flat(24, 2, 24).tooth(1, tooth));
        new Range("the tooth of 24", 0, 23, NO_SUCH).edges(words, 9, 9, tooth -> flat(2, 24, 2).tooth(1, tooth));
        edge(words, "there is no roller at all", () -> due(NO_SUCH, fresh().tooth(0, 0)));
        edge(words, "a tooth that the roller there before had", () -> {
            RollerMesh x = flat(3);
            x.melt(0);
            x.roller(2, 0);
            due(NO_SUCH, x.tooth(0, 2));
        });
    }

    private static void count() {
        head("Promise 10: count");
        new Range("what", 0, 10, BAD_VALUE).edges("BAD_VALUE if what is out of range", 0, 0, what -> fresh().count(what));
        edge("0 rollers", "8", () -> due(8, eightRollers().count(0)));
        edge("1 the thickness of the card", "after a card that is refused", () -> {
            RollerMesh x = fresh();
            x.card(9, 31);
            due(5, x.count(1));
        });
        edge("2 its strength", "0", () -> {
            RollerMesh x = fresh();
            x.card(9, 0);
            due(0, x.count(2));
        });
        edge("3 cards so far, 4 torn ones, 5 steps so far", "none of them", () -> {
            RollerMesh x = fresh();
            same("0 0 0", x.count(3) + " " + x.count(4) + " " + x.count(5));
        });
        edge("3 cards so far, 4 torn ones, 5 steps so far", "torn ones are cards, too", () -> {
            RollerMesh x = flat(2, 2);
            x.card(30, 0);
            x.run(0, 1, 0, 1, 99, 99);
            same("99 99 99", x.count(3) + " " + x.count(4) + " " + x.count(5));
        });
        edge("3 cards so far, 4 torn ones, 5 steps so far", "over two runs", () -> {
            RollerMesh x = flat(2, 2);
            x.run(0, 1, 0, 9, 99, 99);
            x.run(1, 0, 0, 9, 1, 1);
            same("100 0 9802", x.count(3) + " " + x.count(4) + " " + x.count(5));
        });
        edge("6 to 8 the settings", "each at its end", () -> {
            RollerMesh x = fresh();
            x.set(SLACK, 0);
            x.set(PULL, 30);
            x.set(WEAR, 99);
            same("0 30 99", x.count(6) + " " + x.count(7) + " " + x.count(8));
        });
        edge("9 the length of the pad", "empty", () -> due(0, fresh().count(9)));
        edge("9 the length of the pad", "full", () -> due(80, written(repeated("m", 80)).count(9)));
        edge("10 how many changes can be undone", "none", () -> due(0, fresh().count(10)));
        edge("10 how many changes can be undone", "6", () -> due(6, flat(2, 2, 2, 2, 2, 2).count(10)));
        edge("10 how many changes can be undone", "7, of which one was dropped", () -> due(6, flat(2, 2, 2, 2, 2, 2, 2)
            .count(10)));
    }
}
