/** The boundary cases of texts: promises 16 to 19, and what they say under their head. */
final class TextEdges extends Edges {
    /** A text of 80 characters, 27 orders. */
    private static final String FULL = "m0;".repeat(26) + "m0";

    private TextEdges() {
    }

    static void add() {
        length();
        rowOfOrders();
        kinds();
        rollerOrder();
        rollerOrderTeeth();
        runOrder();
        meltOrder();
        fileOrder();
        numbers();
        greatestNumbers();
        orders();
        faults();
        put();
        putBits();
        putTooMany();
        wipe();
        fault();
        carryOut();
        carryOutErrors();
        carryOutFault();
        carryOutChange();
    }

    private static void length() {
        head("Texts");
        String words = "The pad is a text of at most 80 characters, a row of orders";
        edge(words, "80 characters", () -> due(80, written(FULL).count(9)));
        edge(words, "one more", () -> due(TOO_MANY, written(FULL).put('0')));
        edge(words, "79 characters and one", () -> due(80, written(repeated("x", 79)).put('x')));
        edge(words, "80 characters, one by one", () -> {
            RollerMesh x = fresh();
            for (int length = 1; length <= 80; length++) {
                due("put", length, x.put('m'));
            }
            due("one more", TOO_MANY, x.put('m'));
        });
        edge(words, "27 orders in 80 characters", () -> due(NONE, written(FULL).fault()));
        edge(words, "40 values in 80 characters", () -> due(NONE, written("+" + repeated("1,", 39) + "1").fault()));
    }

    private static void rowOfOrders() {
        String words = "text = order { \";\" order }";
        fault(words, "", 0);
        fault(words, ";", 0);
        fault(words, "m0", NONE);
        fault(words, "m0;", 3);
        fault(words, "m0;;", 3);
        fault(words, ";m0", 0);
        fault(words, "m0;m0", NONE);
        fault(words, "m0m0", 2);
        fault(words, "m0,m0", 2);
        fault(words, "m0;m0;", 6);
        fault(words, "+1,-2;r0/1@2_3:4*5;m6;f7.8=-9", NONE);
        fault(words, "+1m0", 2);
        fault(words, "f0.0=0m0", 6);
        fault(words, "r0/1@2_3:4*5m0", 12);
    }

    private static void kinds() {
        String words = "order = \"+\" value { \",\" value } | \"r\" number";
        fault(words, "x", 0);
        fault(words, "0", 0);
        fault(words, "-1", 0);
        fault(words, "M0", 0);
        fault(words, "R0/1@2_3:4*5", 0);
        fault(words, "F0.0=0", 0);
        fault(words, "m0;x", 3);
        fault(words, "m0;M0", 3);
        fault(words, "!", 0);
        fault(words, "~", 0);
    }

    private static void rollerOrder() {
        String words = "\"+\" value { \",\" value }";
        fault(words, "+", 1);
        fault(words, "+0", NONE);
        fault(words, "+,", 1);
        fault(words, "+;", 1);
        fault(words, "++1", 1);
        fault(words, "+0,", 3);
        fault(words, "+0,,0", 3);
        fault(words, "+0,;m0", 3);
        fault(words, "+0,0", NONE);
        fault(words, "+0,0;m0", NONE);
        fault(words, "+0.0", 2);
        String value = "value = [ \"-\" ] digit";
        fault(value, "+9", NONE);
        fault(value, "+-9", NONE);
        fault(value, "+-0", NONE);
        fault(value, "+-", 2);
        fault(value, "+--1", 2);
        fault(value, "+1-", 2);
        fault(value, "+10", 2);
        fault(value, "+00", 2);
        fault(value, "+-10", 3);
        fault(value, "+1,-", 4);
        fault(value, "+1,10", 4);
        fault(value, "+-,1", 2);
        fault(value, "+/", 1);
        fault(value, "+:", 1);
        fault(value, "f0.0=9", NONE);
        fault(value, "f0.0=-9", NONE);
        fault(value, "f0.0=-", 6);
        fault(value, "f0.0=10", 6);
        fault(value, "f0.0=--1", 6);
        fault(value, "f0.0=-10", 7);
    }

    /** The answer of the order: how many were carried out, and how many rollers there are then. */
    private static String came(String text) {
        RollerMesh x = written(text);
        return x.carryOut() + " " + x.count(0);
    }

    private static void rollerOrderTeeth() {
        String words = "\"+\": roller() with teeth (2 to 24, otherwise BAD_VALUE)";
        String most = "+9,-9,8,-8,7,-7,6,-6,5,-5,4,-4,3,-3,2,-2,1,-1,0,0,0,0,0";
        edge(words, "1 is no fault", () -> due(NONE, written("+1").fault()));
        edge(words, "1 is a BAD_VALUE", () -> same("0 0", came("+1")));
        edge(words, "2 are right", () -> same("1 1", came("+1,1")));
        edge(words, "24 are right", () -> same("1 1", came(most + ",1")));
        edge(words, "24 with the heights that they have", () -> {
            RollerMesh x = written(most + ",1");
            x.carryOut();
            same(most.substring(1) + ",1", Shops.heights(x, 0));
        });
        edge(words, "25 are no fault", () -> due(NONE, written(most + ",0,1").fault()));
        edge(words, "25 are a BAD_VALUE", () -> same("0 0", came(most + ",0,1")));
        edge(words, "40, the most that the pad holds, are a BAD_VALUE",
            () -> same("0 0", came("+" + repeated("1,", 39) + "1")));
        edge(words, "2 behind 24 are 2", () -> {
            RollerMesh x = written(most + ",1;+1,-1");
            x.carryOut();
            same("1,-1", Shops.heights(x, 1));
        });
        edge(words, "the eighth roller", () -> same("8 8", came("+1,1" + repeated(";+1,1", 7))));
        edge(words, "the ninth roller", () -> same("8 8", came("+1,1" + repeated(";+1,1", 8))));
        edge(words, "1 tooth, with 8 rollers", () -> same("8 8", came("+1,1" + repeated(";+1,1", 7) + ";+1")));
        edge(words, "-0 is 0", () -> {
            RollerMesh x = written("+-0,0");
            x.carryOut();
            same("0,0", Shops.heights(x, 0));
        });
    }

    private static void runOrder() {
        String words = "\"r\" number \"/\" number \"@\" number \"_\" number \":\" number \"*\" number";
        String right = "r0/1@2_3:4*5";
        for (int length = 1; length < right.length(); length++) {
            fault(words, right.substring(0, length), length);
        }
        for (int place = 1; place < right.length(); place++) {
            fault(words, right.substring(0, place) + "x" + right.substring(place + 1), place);
        }
        String[] wanting = {"r/1@2_3:4*5", "r0/@2_3:4*5", "r0/1@_3:4*5", "r0/1@2_:4*5", "r0/1@2_3:*5", "r0/1@2_3:4*;"};
        for (int number = 0; number < wanting.length; number++) {
            fault(words, wanting[number], 1 + 2 * number);
        }
        String[] below = {"r-0/1@2_3:4*5", "r0/-1@2_3:4*5", "r0/1@-2_3:4*5", "r0/1@2_-3:4*5", "r0/1@2_3:-4*5",
            "r0/1@2_3:4*-5"};
        for (int number = 0; number < below.length; number++) {
            fault(words, below[number], 1 + 2 * number);
        }
        fault(words, right, NONE);
        fault(words, right + "*6", 12);
        fault(words, right + ";" + right, NONE);
    }

    private static void meltOrder() {
        String words = "| \"m\" number |";
        fault(words, "m", 1);
        fault(words, "m0", NONE);
        fault(words, "m;", 1);
        fault(words, "m-0", 1);
        fault(words, "mm0", 1);
        fault(words, "m0.", 2);
        fault(words, "m0-", 2);
    }

    private static void fileOrder() {
        String words = "\"f\" number \".\" number \"=\" value";
        String right = "f0.1=2";
        for (int length = 1; length < right.length(); length++) {
            fault(words, right.substring(0, length), length);
        }
        for (int place = 1; place < right.length(); place++) {
            fault(words, right.substring(0, place) + "x" + right.substring(place + 1), place);
        }
        fault(words, right, NONE);
        fault(words, "f.1=2", 1);
        fault(words, "f0.=2", 3);
        fault(words, "f0.1=;", 5);
        fault(words, "f-1.0=2", 1);
        fault(words, "f0.-1=2", 3);
        fault(words, "f0.1=2,3", 6);
    }

    private static void numbers() {
        String words = "A digit is 0 to 9, a number 0 to 99, without leading zeros.";
        fault(words, "m0", NONE);
        fault(words, "m9", NONE);
        fault(words, "m10", NONE);
        fault(words, "m99", NONE);
        fault(words, "m00", 2);
        fault(words, "m01", 2);
        fault(words, "m09", 2);
        fault(words, "m010", 2);
        fault(words, "m/", 1);
        fault(words, "m:", 1);
        fault(words, "m1/", 2);
        fault(words, "m1:", 2);
        fault(words, "r00/1@2_3:4*5", 2);
        fault(words, "r0/01@2_3:4*5", 4);
        fault(words, "r0/1@02_3:4*5", 6);
        fault(words, "r0/1@2_03:4*5", 8);
        fault(words, "r0/1@2_3:04*5", 10);
        fault(words, "r0/1@2_3:4*05", 12);
        fault(words, "f00.1=2", 2);
        fault(words, "f0.01=2", 4);
        fault(words, "r99/99@99_99:99*99", NONE);
        fault(words, "r10/10@10_10:10*10", NONE);
        fault(words, "f99.99=9", NONE);
        edge(words, "0 is the first roller", () -> same("2 0", came("+1,1;m0")));
        edge(words, "10 is the tooth 10", () -> {
            RollerMesh x = flat(24);
            Shops.obey(x, "f0.10=7;f0.23=5;f0.9=3");
            same("0,0,0,0,0,0,0,0,0,3,7,0,0,0,0,0,0,0,0,0,0,0,0,5", Shops.heights(x, 0));
        });
    }

    private static void greatestNumbers() {
        String words = "(also of a digit by which a number would be above 99)";
        fault(words, "m100", 3);
        fault(words, "m990", 3);
        fault(words, "m999", 3);
        fault(words, "m1000", 3);
        fault(words, "r100/1@2_3:4*5", 3);
        fault(words, "r0/100@2_3:4*5", 5);
        fault(words, "r0/1@100_3:4*5", 7);
        fault(words, "r0/1@2_100:4*5", 9);
        fault(words, "r0/1@2_3:100*5", 11);
        fault(words, "r0/1@2_3:4*100", 13);
        fault(words, "f100.1=2", 3);
        fault(words, "f0.100=2", 5);
    }

    private static void orders() {
        String run = "\"r\": run() of an upper roller, a lower one, with an offset, a gap, cards, and steps for each,"
            + " with the card of now";
        edge(run, "99 cards of 99 steps", () -> {
            RollerMesh x = flat(2, 2);
            Shops.obey(x, "r0/1@23_30:99*99");
            same("99 0 9801", x.count(3) + " " + x.count(4) + " " + x.count(5));
        });
        edge(run, "one card of one step", () -> {
            RollerMesh x = flat(2, 2);
            Shops.obey(x, "r1/0@0_1:1*1");
            same("1 0 1", x.count(3) + " " + x.count(4) + " " + x.count(5));
        });
        edge(run, "the offset is of the lower one", () -> {
            RollerMesh x = shop(teeth(0, 0), teeth(0, 5, 0, 0));
            x.card(6, 4);
            Shops.obey(x, "r0/1@1_6:1*3");
            same("1 1 1", x.count(3) + " " + x.count(4) + " " + x.count(5));
        });
        edge(run, "the card of now, as it was set last", () -> {
            RollerMesh x = flat(2, 2);
            x.card(30, 0);
            Shops.write(x, "r0/1@0_9:2*1");
            x.card(9, 0);
            x.carryOut();
            due(0, x.count(4));
        });
        edge("\"m\": melt()", "the last of 8", () -> {
            RollerMesh x = eightRollers();
            due("orders", 1, Shops.obey(x, "m7"));
            due("rollers", 7, x.count(0));
        });
        edge("\"m\": melt()", "those behind move up ahead of the next order", () -> {
            RollerMesh x = flat(2, 3, 4);
            due("orders", 2, Shops.obey(x, "m0;m0"));
            due("the one that is left", 4, x.of(0, 0));
        });
        edge("\"f\": file() a tooth of a roller to a height", "the least", () -> {
            RollerMesh x = flat(24, 24);
            Shops.obey(x, "f1.23=-9");
            due(0, x.tooth(1, 23));
        });
        edge("\"f\": file() a tooth of a roller to a height", "the greatest", () -> {
            RollerMesh x = flat(24, 24);
            Shops.obey(x, "f1.23=9");
            due(18, x.tooth(1, 23));
        });
    }

    private static void faults() {
        String words = "The fault is the index of the first character that cannot stand at its place when the text is read"
            + " from left to right";
        fault(words, "~m0", 0);
        fault(words, "m0x", 2);
        fault(words, "mx;x", 1);
        fault(words, "m0;mx;x", 4);
        edge(words, "the last one of 80", () -> due(79, written(repeated("m0;", 26) + "mx").fault()));
        edge(words, "a digit too many, the last one of 80",
            () -> due(79, written("m10;" + repeated("m0;", 24) + "m100").fault()));
        edge(words, "all of 80", () -> due(0, written(repeated("x", 80)).fault()));
        String end = "if there is none and the text ends too early (also if it is empty), it is the length of the text";
        edge(end, "an empty text", () -> due(0, fresh().fault()));
        edge(end, "an emptied text", () -> {
            RollerMesh x = written("m");
            x.wipe();
            due(0, x.fault());
        });
        fault(end, "m0;+1,-", 7);
        edge(end, "after 79 characters", () -> due(79, written(repeated("m0;", 26) + "m").fault()));
        edge(end, "after 80 characters, within an order", () -> due(80, written("m10;" + repeated("m0;", 25) + "m").fault()));
        edge(end, "after 80 characters, behind a ;", () -> due(80, written("m10;m10;" + repeated("m0;", 24)).fault()));
        edge(end, "after 80 characters, behind a ,", () -> due(80, written("+-1," + repeated("1,", 38)).fault()));
        edge(end, "after 80 characters, behind a -", () -> due(80, written("+" + repeated("1,", 39) + "-").fault()));
    }

    private static void put() {
        head("Promise 16: put");
        String order = "its lowest 8 bits are the last character, the next 8 bits the one before, and so on";
        edge(order, "2 characters", () -> {
            RollerMesh x = fresh();
            x.put('m' << 8 | '0');
            due(NONE, x.fault());
        });
        edge(order, "8 characters", () -> {
            RollerMesh x = fresh();
            x.put(0x2B312C323B6D303BL);
            x.put('m' << 8 | '0');
            due(NONE, x.fault());
        });
        edge(order, "8 characters, the first of which is wrong", () -> {
            RollerMesh x = fresh();
            x.put(0x3B312C323B6D303BL);
            due(0, x.fault());
        });
        String characters = "`characters`: 1 to 8 characters";
        for (int length = 1; length <= 8; length++) {
            int characterCount = length;
            edge(characters, length + " of them", () -> due(characterCount,
                fresh().put(Shops.packed(repeated("m", characterCount)))));
        }
        edge("BAD_VALUE if there is no character", "0", () -> due(BAD_VALUE, fresh().put(0)));
        edge("BAD_VALUE if there is no character", "0, on a pad with some", () -> due(BAD_VALUE, written("m0").put(0)));
        String code = "a code is not 33 to 126";
        edge(code, "33", () -> due(1, fresh().put(33)));
        edge(code, "32", () -> due(BAD_VALUE, fresh().put(32)));
        edge(code, "126", () -> due(1, fresh().put(126)));
        edge(code, "127", () -> due(BAD_VALUE, fresh().put(127)));
        edge(code, "1", () -> due(BAD_VALUE, fresh().put(1)));
        edge(code, "128", () -> due(BAD_VALUE, fresh().put(128)));
        edge(code, "255", () -> due(BAD_VALUE, fresh().put(255)));
        edge(code, "109 and 128, which is m in 7 bits", () -> due(BAD_VALUE, fresh().put('m' | 128)));
        edge(code, "33 in all 8 places", () -> due(8, fresh().put(0x2121212121212121L)));
        edge(code, "126 in all 8 places", () -> due(8, fresh().put(0x7E7E7E7E7E7E7E7EL)));
        edge(code, "127 in all 8 places", () -> due(BAD_VALUE, fresh().put(0x7F7F7F7F7F7F7F7FL)));
        edge(code, "-1, which is 255 in all 8 places", () -> due(BAD_VALUE, fresh().put(-1)));
        for (int place = 0; place < 8; place++) {
            long others = 0x6D6D6D6D6D6D6D6DL & ~(255L << 8 * place);
            long at = place;
            edge(code, "32 among 8, " + place + " ahead of the last", () -> due(BAD_VALUE, fresh().put(others | 32L << 8 * at)));
            edge(code, "127 among 8, " + place + " ahead of the last", () -> due(BAD_VALUE, fresh().put(others | 127L << 8 * at)));
            edge(code, "237 among 8, " + place + " ahead of the last", () -> due(BAD_VALUE, fresh().put(others | 237L << 8 * at)));
        }
    }

    private static void putBits() {
        String words = "a bit above 8 bits that are 0 is not 0";
        for (int place = 0; place < 7; place++) {
            int at = place;
            edge(words, "8 bits that are 0, " + place + " ahead of the last of 8",
                () -> due(BAD_VALUE, fresh().put(0x6D6D6D6D6D6D6D6DL & ~(255L << 8 * at))));
        }
        edge(words, "the lowest bit above them", () -> due(BAD_VALUE, fresh().put(1L << 16 | 'm')));
        edge(words, "the highest bit above them", () -> due(BAD_VALUE, fresh().put(1L << 63 | 'm')));
        edge(words, "the highest bit alone", () -> due(BAD_VALUE, fresh().put(1L << 63)));
        edge(words, "the lowest bit above 7 characters' 0",
            () -> due(BAD_VALUE, fresh().put(1L << 56 | Shops.packed("mmmmmm"))));
        edge(words, "all above them is 0", () -> due(7, fresh().put(Shops.packed("mmmmmmm"))));
        edge("and everything above them has to be 0, too", "one character and 56 bits that are 0",
            () -> due(1, fresh().put('m')));
        edge("and everything above them has to be 0, too", "each bit from the 16th on, behind one character", () -> {
            for (int bit = 16; bit < 64; bit++) {
                due("the bit " + bit, BAD_VALUE, fresh().put(1L << bit | 'm'));
            }
        });
        edge("Appends characters to the pad.", "behind those that are there", () -> {
            RollerMesh x = written("m0;");
            x.put(Shops.packed("m"));
            due(4, x.fault());
        });
        edge("8 bits that are 0 mean that there are no more characters", "behind 1", () -> {
            RollerMesh x = written("m");
            x.put('0');
            due("the length", 2, x.count(9));
            due("the fault", NONE, x.fault());
        });
    }

    private static void putTooMany() {
        String words = "TOO_MANY if the pad would be longer than 80";
        edge(words, "72 and 8", () -> due(80, written(repeated("m", 72)).put(Shops.packed("mmmmmmmm"))));
        edge(words, "73 and 8", () -> due(TOO_MANY, written(repeated("m", 73)).put(Shops.packed("mmmmmmmm"))));
        edge(words, "73 and 7", () -> due(80, written(repeated("m", 73)).put(Shops.packed("mmmmmmm"))));
        edge(words, "79 and 1", () -> due(80, written(repeated("m", 79)).put('m')));
        edge(words, "79 and 2", () -> due(TOO_MANY, written(repeated("m", 79)).put(Shops.packed("mm"))));
        edge(words, "80 and 1", () -> due(TOO_MANY, written(repeated("m", 80)).put('m')));
        edge(words, "80, then a wipe", () -> {
            RollerMesh x = written(repeated("m", 80));
            x.wipe();
            due(8, x.put(Shops.packed("mmmmmmmm")));
        });
        edge(words, "nothing of what is too long is appended", () -> {
            RollerMesh x = written(repeated("m", 79));
            x.put(Shops.packed("mm"));
            due(79, x.count(9));
        });
        edge("Returns the length of the pad then", "the first one", () -> due(1, fresh().put('m')));
        edge("Returns the length of the pad then", "the 80th one", () -> due(80, written(repeated("m", 79)).put('m')));
        edge("Returns the length of the pad then", "it is no change", () -> due(0, written(FULL).count(10)));
    }

    private static void wipe() {
        head("Promise 17: wipe");
        String words = "Empties the pad, and returns the length that it had.";
        edge(words, "an empty one", () -> due(0, fresh().wipe()));
        edge(words, "a full one", () -> due(80, written(FULL).wipe()));
        edge(words, "twice", () -> {
            RollerMesh x = written(FULL);
            x.wipe();
            due(0, x.wipe());
        });
        edge(words, "it is empty then", () -> {
            RollerMesh x = written(FULL);
            x.wipe();
            due(0, x.count(9));
        });
        edge(words, "it takes 80 again, and nothing of before is left", () -> {
            RollerMesh x = written(FULL);
            x.wipe();
            Shops.write(x, "+" + repeated("1,", 39) + "1");
            due("the length", 80, x.count(9));
            due("the fault", NONE, x.fault());
        });
        edge(words, "it is no change", () -> {
            RollerMesh x = written(FULL);
            x.wipe();
            due(0, x.count(10));
        });
    }

    private static void fault() {
        head("Promise 18: fault");
        String words = "Returns the fault of the pad, NONE if there is none.";
        edge(words, "none", () -> due(NONE, written("m0").fault()));
        edge(words, "at 0", () -> due(0, written("0").fault()));
        edge(words, "at 80", () -> due(80, written("m10;m10;" + repeated("m0;", 24)).fault()));
        edge(words, "a roller that is not there is none", () -> due(NONE, written("m99").fault()));
        harmless(words, "fault", Edges::used, RollerMesh::fault);
        edge(words, "asked twice", () -> {
            RollerMesh x = written("m0x");
            x.fault();
            due(2, x.fault());
        });
    }

    private static void carryOut() {
        head("Promise 19: carryOut");
        String each = "Carries the orders of the pad out, one after the other";
        edge(each, "one", () -> same("1 1", came("+1,1")));
        edge(each, "27, the most that the pad holds", () -> {
            RollerMesh x = eightRollers();
            due("orders that are right", 8, Shops.obey(x, FULL));
            due("rollers", 0, x.count(0));
        });
        edge(each, "20 that are right", () -> same("20 0", came(repeated("+1,1;m0;", 10).substring(0, 79))));
        edge(each, "what one changes holds for the next", () -> {
            RollerMesh x = written("+0,0;+0,0;f1.1=6;r0/1@0_7:1*1;f1.1=7;r0/1@0_9:1*1");
            due(5, x.carryOut());
        });
        edge(each, "a run that wears ahead of one that would not mesh", () -> {
            RollerMesh x = shop(teeth(1, 1), teeth(0, 0));
            x.set(WEAR, 1);
            due("orders", 2, Shops.obey(x, "r0/1@0_2:1*2;r0/1@0_1:1*2"));
        });
        edge("and empties the pad", "all were carried out", () -> due(0, afterCarryOut("+1,1").count(9)));
        edge("and empties the pad", "some were carried out", () -> due(0, afterCarryOut("+1,1;m1;m0").count(9)));
        edge("and empties the pad", "none was carried out", () -> due(0, afterCarryOut("m0;+1,1").count(9)));
        edge("and empties the pad", "a second time there is no text",
            () -> due(BAD_TEXT, afterCarryOut("+1,1").carryOut()));
        edge("Returns how many orders were carried out", "none", () -> due(0, written("m0").carryOut()));
        edge("Returns how many orders were carried out", "all of 2", () -> due(2, written("+1,1;m0").carryOut()));
        edge("Returns how many orders were carried out", "not how many cards tore", () -> {
            RollerMesh x = flat(2, 2);
            x.card(30, 0);
            due(1, Shops.obey(x, "r0/1@0_1:99*99"));
        });
    }

    private static RollerMesh afterCarryOut(String text) {
        RollerMesh x = written(text);
        x.carryOut();
        return x;
    }

    private static void carryOutErrors() {
        String words = "up to the first one that returns an error";
        edge(words, "the first of 3", () -> same("0 0", came("m0;+1,1;+1,1")));
        edge(words, "the second of 3", () -> same("1 1", came("+1,1;m1;+1,1")));
        edge(words, "the last of 3", () -> same("2 2", came("+1,1;+1,1;m2")));
        edge(words, "none of 3", () -> same("3 1", came("+1,1;+1,1;m1")));
        String[] wrong = {"r0/2@0_6:1*1", "r2/0@0_6:1*1", "r0/0@0_6:1*1", "r0/1@24_6:1*1", "r0/1@0_31:1*1",
            "r0/1@0_0:1*1", "r0/1@0_6:0*1", "r0/1@0_6:1*0", "m2", "m99", "f2.0=1", "f0.2=1", "f0.99=1", "+1"};
        for (String order : wrong) {
            edge(words, "the second, " + order, () -> {
                RollerMesh x = flat(2, 2);
                due("orders", 1, Shops.obey(x, "f0.0=3;" + order + ";f0.0=4"));
                same("2 5 5 0 0 0 6 4 20 |3,0 0 0|0,0 0 0 pad 0 history 3", Shops.allLooks(x));
            });
        }
        edge(words, "an answer of 0 is none: melt", () -> same("3 1", came("+1,1;m0;+1,1")));
        edge(words, "an answer of 0 is none: file", () -> same("3 0", came("+-9,1;f0.0=1;m0")));
        edge(words, "an answer of 0 is none: run", () -> {
            RollerMesh x = flat(2, 2);
            due(2, Shops.obey(x, "r0/1@0_9:1*1;m0"));
        });
    }

    private static void carryOutFault() {
        String words = "BAD_TEXT if the pad has a fault (then it stays)";
        edge(words, "an empty one", () -> due(BAD_TEXT, fresh().carryOut()));
        edge(words, "it ends too early", () -> due(BAD_TEXT, written("+1,1;").carryOut()));
        edge(words, "the last character is wrong", () -> due(BAD_TEXT, written("+1,1x").carryOut()));
        edge(words, "the length stays", () -> {
            RollerMesh x = written("+1,1;m");
            x.carryOut();
            due(6, x.count(9));
        });
        edge(words, "the characters stay", () -> {
            RollerMesh x = written("+1,1;m");
            x.carryOut();
            x.put('0');
            due(2, x.carryOut());
        });
        edge(words, "80 characters stay", () -> {
            RollerMesh x = written(repeated("x", 80));
            x.carryOut();
            due(80, x.count(9));
        });
        edge(words, "no order is carried out", () -> {
            RollerMesh x = written("+1,1;m");
            x.carryOut();
            due(0, x.count(0));
        });
        edge(words, "it is no change", () -> {
            RollerMesh x = written("+1,1;m");
            x.carryOut();
            due(0, x.count(10));
        });
    }

    private static void carryOutChange() {
        String words = "This is a change (one, with all of them; also if none is carried out).";
        edge(words, "with 3 orders", () -> due(1, afterCarryOut("+1,1;+1,1;m0").count(10)));
        edge(words, "all of them are undone at once", () -> {
            RollerMesh x = afterCarryOut("+1,1;+1,1;m0");
            due("undo", 0, x.undo());
            due("rollers", 0, x.count(0));
        });
        edge(words, "with none", () -> due(1, afterCarryOut("m0").count(10)));
        edge(words, "undo of none", () -> {
            RollerMesh x = flat(2);
            Shops.obey(x, "m1");
            due("undo", 1, x.undo());
            due("the roller stays", 1, x.count(0));
        });
        edge(words, "some, then an error, are undone at once", () -> {
            RollerMesh x = flat(2);
            Shops.obey(x, "f0.0=5;m1");
            x.undo();
            same("0,0", Shops.heights(x, 0));
        });
        edge(words, "an undo does not bring the pad back", () -> {
            RollerMesh x = afterCarryOut("+1,1");
            x.undo();
            due(0, x.count(9));
        });
        edge(words, "12 orders drop one state of a full history", () -> {
            RollerMesh x = flat(2, 3, 4, 5, 6, 7);
            Shops.obey(x, repeated("f0.0=1;", 11) + "m0");
            due("history", 6, x.count(10));
            for (int left = 5; left >= 0; left--) {
                x.undo();
            }
            due("the oldest state has one roller", 1, x.count(0));
        });
    }
}
