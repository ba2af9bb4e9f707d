/** Promises 16 to 19: texts. */
final class TextTests {
    private TextTests() {
    }

    static void add() {
        Check.test("promise 16: put", TextTests::put);
        Check.test("promise 16: put, wrong", TextTests::putWrong);
        Check.test("promise 16: put, too many", TextTests::putTooMany);
        Check.test("promise 17: wipe", TextTests::wipe);
        Check.test("promise 18: fault, none", TextTests::noFault);
        Check.test("promise 18: fault", TextTests::fault);
        Check.test("promise 18: fault at each place", TextTests::faultAtEachPlace);
        Check.test("promise 19: carryOut", TextTests::carryOut);
        Check.test("promise 19: carryOut, rollers", TextTests::carryOutRollers);
        Check.test("promise 19: carryOut, runs", TextTests::carryOutRuns);
        Check.test("promise 19: carryOut, orders that fail", TextTests::carryOutFails);
        Check.test("promise 19: carryOut, a bad text", TextTests::carryOutBadText);
        Check.test("promise 19: carryOut is one change", TextTests::carryOutIsOneChange);
    }

    private static void put() {
        RollerMesh x = Shops.fresh();
        Check.due("one character", 1, x.put('m'));
        Check.due("another one", 2, x.put('0'));
        Check.due("8 of them", 10, x.put(Shops.packed(";m1;m2;m")));
        Check.due("no fault but its end", 10, x.fault());
        Check.due("7 of them", 17, x.put(Shops.packed("3;m4;m5")));
        Check.due("in their order", -6, x.fault());
        Check.due("the lowest code", 18, x.put(33));
        Check.due("the highest code", 19, x.put(126));
        Check.due("the fault", 17, x.fault());
        Check.due("the length", 19, x.count(9));
        Check.due("it is no change", 0, x.count(10));
        Check.due("the highest 8", 27, x.put(0x7E7E7E7E7E7E7E7EL));
        Check.due("the lowest 8", 35, x.put(0x2121212121212121L));
    }

    private static void putWrong() {
        RollerMesh x = Shops.fresh();
        Shops.write(x, "m1");
        long[] wrong = {0, -1, 32, 127, 1, 128, 255, 160, 0x6D00L, 0x6D0031L, 0x6D00000000000031L, 0x6D31003131L,
            0x6D1FL, 0x206DL, 0x6D20L, 0x7F31313131313131L, 0x8031313131313131L, 0x3131313131313120L,
            0x3131313131313100L, 0x0100000000000031L, 0x8000000000000031L, 0xFF31L, Long.MIN_VALUE, Long.MAX_VALUE};
        for (long characters : wrong) {
            Check.due("put(" + Long.toHexString(characters) + ")", -2, x.put(characters));
        }
        Check.due("the pad stays", 2, x.count(9));
        Check.due("as it was", -6, x.fault());
    }

    private static void putTooMany() {
        RollerMesh x = Shops.fresh();
        for (int put = 1; put <= 9; put++) {
            Check.due("put", 8 * put, x.put(Shops.packed("m1;m1;m1")));
        }
        Check.due("up to 77", 77, x.put(Shops.packed("m1;m1")));
        Check.due("4 more", -4, x.put(Shops.packed("abcd")));
        Check.due("8 more", -4, x.put(Shops.packed("abcdefgh")));
        Check.due("the length", 77, x.count(9));
        Check.due("a bad value is checked first", -2, x.put(Shops.packed("abc ")));
        Check.due("3 more", 80, x.put(Shops.packed("abc")));
        Check.due("one more", -4, x.put('m'));
        Check.due("no character", -2, x.put(0));
        Check.due("the length", 80, x.count(9));
    }

    private static void wipe() {
        RollerMesh x = Shops.fresh();
        Check.due("an empty pad", 0, x.wipe());
        Shops.write(x, "m1;m2;m3;m4");
        Check.due("its length", 11, x.wipe());
        Check.due("is empty", 0, x.count(9));
        Check.due("again", 0, x.wipe());
        Check.due("the fault of an empty pad", 0, x.fault());
        Check.due("no change", 0, x.count(10));
        Shops.write(x, "m");
        Check.due("what was wiped is gone", 1, x.fault());
    }

    private static void noFault() {
        String[] texts = {"m0", "m9", "m10", "m99", "+0", "+-0", "+9,-9,0,-1", "r0/1@0_9:2*3", "r99/99@99_99:99*99",
            "f0.0=0", "f99.99=-9", "m1;m2", "+1,2;m0;f1.2=-3;r1/0@23_30:99*99;+-1", "f10.0=5;m0",
            "+1,2,3,4,5,6,7,8,9,0,1,2,3,4,5,6,7,8,9,0,1,2,3,4,5,6,7,8,9,0,1,2,3,4,5,6,7,8,9,0"};
        for (String text : texts) {
            RollerMesh x = Shops.fresh();
            Check.due("length", text.length(), Shops.write(x, text));
            Check.due("fault of " + text, -6, x.fault());
            Check.due("the pad stays", text.length(), x.count(9));
        }
    }

    private static void fault() {
        String[] texts = {"", "x", ";", "m", "mm", "m00", "m01", "m100", "m990", "m1;", "m1;;", "m1x", "m-1", "m1,2",
            "+", "+,", "+-", "+--1", "+-,", "+10", "+1,", "+1,,", "+1;", "+1-", "+a", "++1", "r1@", "r1/2/", "r1/2@3:",
            "r1/2@3_4*", "r1/2@3_4:5_", "r1/2@3_4:5*", "r1/2@3_4:5*6*", "r-1", "r1/-", "f1=", "f1.2.", "f1.2=",
            "f1.2=-", "f1.2=33", "f1.2=3,", "f1.2=-3x", "f.", "R", "M1", "F", "m1 ", "m1;x", "m1;+", "+1;m", "1",
            "-1", "m1:m2", "m/", "m:"};
        int[] faults = {0, 0, 0, 1, 1, 2, 2, 3, 3, 3, 3, 2, 1, 2,
            1, 1, 2, 2, 2, 2, 3, 3, 3, 2, 1, 1, 2, 4, 6,
            8, 10, 11, 12, 1, 3, 2, 4, 5,
            6, 6, 6, 7, 1, 0, 0, 0, 2, 3, 4, 4, 0,
            0, 2, 1, 1};
        Check.due("a fault for each text", texts.length, faults.length);
        for (int at = 0; at < texts.length && at < faults.length; at++) {
            RollerMesh x = Shops.fresh();
            // A blank can't be put, so a code above all signs of the texts stands for it.
            Shops.write(x, texts[at].replace(' ', '~'));
            Check.due("fault of '" + texts[at] + "'", faults[at], x.fault());
        }
    }

    /** A right text with a wrong sign at any place has its fault there, and cut off at any place it has it there. */
    private static void faultAtEachPlace() {
        String right = "+1,-2,3;f10.21=-4;r10/21@22_30:49*58;m67";
        for (int place = 0; place < right.length(); place++) {
            RollerMesh x = Shops.fresh();
            Shops.write(x, right.substring(0, place) + "~" + right.substring(place));
            Check.due("fault of a wrong sign at " + place, place, x.fault());
            x.wipe();
            Shops.write(x, right.substring(0, place));
            boolean whole = right.startsWith(";", place) || place == 2 || place == 5 || place == 35 || place == 39;
            Check.due("fault of the first " + place, whole ? -6 : place, x.fault());
        }
    }

    private static void carryOut() {
        RollerMesh x = Shops.fresh();
        Check.due("four orders", 4, Shops.obey(x, "+1,-2,3;+0,-0;f0.1=-9;m1"));
        Check.dueText("what they did", "1 5 5 0 0 0 6 4 20 |1,-9,3 0 0 pad 0 history 1", Shops.allLooks(x));
        Check.due("one order", 1, Shops.obey(x, "f0.0=-0"));
        Check.dueText("its work", "0,-9,3", Shops.heights(x, 0));
        Check.due("27 orders are tried", 1, Shops.obey(x, "m0;m0;m0;m0;m0;m0;m0;m0;m0;m0;m0;m0;m0;m0;m0;m0;m0;m0;m0"
            + ";m0;m0;m0;m0;m0;m0;m0"));
        Check.due("and the rest does nothing", 0, x.count(0));
        Check.due("8 rollers and 19 orders of them", 27, Shops.obey(x, "+0,0;+0,0;+0,0;+0,0;m0;m0;m0;m0"
            + ";+0,0;m0;+0,0;m0;+0,0;m0;+0,0;m0") + Shops.obey(x, "+0,0;m0;+0,0;m0;+0,0;m0;+0,0;m0;+0,0;m0;+0,0"));
    }

    private static void carryOutRollers() {
        RollerMesh x = Shops.fresh();
        Check.due("one tooth is a bad value", 0, Shops.obey(x, "+1"));
        Check.due("two are right", 1, Shops.obey(x, "+9,-9"));
        String most = "+1,2,3,4,5,6,7,8,9,0,-1,-2,-3,-4,-5,-6,-7,-8,-9,0,1,2,3";
        Check.due("24 are right", 1, Shops.obey(x, most + ",4"));
        Check.due("their number", 24, x.of(1, 0));
        Check.dueText("their heights", most.substring(1) + ",4", Shops.heights(x, 1));
        Check.due("25 are a bad value", 0, Shops.obey(x, most + ",4,5"));
        Check.due("40 are a bad value, too", 0, Shops.obey(x, "+1,2,3,4,5,6,7,8,9,0,1,2,3,4,5,6,7,8,9,0,1,2,3,4,5,6,7"
            + ",8,9,0,1,2,3,4,5,6,7,8,9,0"));
        Check.due("rollers", 2, x.count(0));
        Check.due("up to 8 rollers", 6, Shops.obey(x, "+2,2;+3,3;+4,4;+5,5;+6,6;+7,7;+8,8"));
        Check.due("all there are", 8, x.count(0));
        Check.dueText("the last one", "7,7", Shops.heights(x, 7));
    }

    private static void carryOutRuns() {
        RollerMesh x = Shops.fresh();
        x.card(6, 30);
        Check.due("as run() does", 3, Shops.obey(x, "+0,0,0,5;+0,0;r0/1@0_6:5*3"));
        Check.dueText("cards, torn, steps", "2 6 30 5 3 13 6 4 20 |0,0,0,5 13 0|0,0 13 0 pad 0 history 2",
            Shops.allLooks(x));
        Check.due("the lower roller, the offset", 1, Shops.obey(x, "r1/0@3_6:3*2"));
        Check.due("torn", 5, x.count(4));
        Check.due("of the greatest numbers", 1, Shops.obey(x, "r0/1@23_30:99*99"));
        Check.due("steps", 9801 + 13 + 6, x.count(5));
        Check.due("worn", 1, x.of(0, 6));
        Check.due("what an order did counts for the next", 2, Shops.obey(x, "f0.3=9;f0.3=0;r0/1@24_30:1*1"));
        Check.due("a run with no card", 0, Shops.obey(x, "r0/1@0_30:0*1"));
        Check.due("a run with no steps", 0, Shops.obey(x, "r0/1@0_30:1*0"));
    }

    private static void carryOutFails() {
        String[] wrong = {"r0/2@0_6:1*1", "r2/0@0_6:1*1", "r0/0@0_6:1*1", "r0/1@24_6:1*1", "r0/1@0_31:1*1",
            "r0/1@0_0:1*1", "r0/1@0_6:0*1", "r0/1@0_6:1*0", "m2", "m99", "f2.0=1", "f0.2=1", "+1"};
        for (String order : wrong) {
            RollerMesh x = Shops.fresh();
            Shops.obey(x, "+1,1;+2,2");
            Check.due("one order ahead of " + order, 1, Shops.obey(x, "f0.0=3;" + order + ";f0.0=4;m0"));
            Check.dueText("what is done is the first", "2 5 5 0 0 0 6 4 20 |3,1 0 0|2,2 0 0 pad 0 history 2",
                Shops.allLooks(x));
        }
    }

    private static void carryOutBadText() {
        RollerMesh x = Shops.fresh();
        Check.due("an empty pad", -3, x.carryOut());
        Shops.write(x, "+1,1;m");
        Check.due("a text that ends too early", -3, x.carryOut());
        Check.dueText("nothing changed, the pad stays", "0 5 5 0 0 0 6 4 20  pad 6 history 0", Shops.allLooks(x));
        Shops.write(x, "0");
        Check.due("then it is whole", 2, x.carryOut());
        Shops.write(x, "m0;");
        Check.due("an order too few", -3, x.carryOut());
        Check.due("the pad stays", 3, x.count(9));
        Check.due("the history stays", 1, x.count(10));
    }

    private static void carryOutIsOneChange() {
        RollerMesh x = Shops.fresh();
        x.card(7, 7);
        String before = Shops.looks(x);
        Check.due("orders", 3, Shops.obey(x, "+1,1;+2,2;m0"));
        Check.due("one change", 2, x.count(10));
        Check.due("none of them", 0, Shops.obey(x, "m9"));
        Check.due("is a change, too", 3, x.count(10));
        Shops.write(x, "m1");
        Check.due("undo what did nothing", 2, x.undo());
        Check.due("there is a roller yet", 1, x.count(0));
        Check.due("undo them all", 1, x.undo());
        Check.dueText("as it was before", before, Shops.looks(x));
        Check.due("the pad stays", 2, x.count(9));
    }
}
