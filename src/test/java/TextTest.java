/** What it is, and promises 1 to 5: a new object, THE TEXT, its ITEMS and numbers, its FAULT, laying it. */
public final class TextTest {
    private static final Check check = new Check();

    public static void main(String[] args) throws Exception {
        check.sentencesOf(TextTest.class);
        check.end();
    }

    private static void faultAt(String text, int want) {
        check.due("fault() of '" + text + "'", Check.written(text).fault(), want);
    }

    /** That ITEM has no FAULT: alone, with others around it, and laid. */
    private static void isSo(String item) {
        faultAt(item, Check.NONE);
        check.laid(item + "f7;" + item + "m0,0,0;");
    }

    /** That ITEM is not so: alone, and behind another one. */
    private static void isNotSo(String... items) {
        for (String item : items) {
            faultAt(item, 0);
            faultAt("f7;" + item, 3);
            faultAt("f7;" + item + "f8;", 3);
        }
    }

    // ---- promise 1

    @Sentence("Terms: at first s10;w3,2;w5,4;w6,1;w9,6;k2;t5;m0,9,5;m1,6,3;m2,8,0;m3,4,2;m0,1,4;f20;")
    static void newIsLaidAsTold() {
        BannisterCabinet x = new BannisterCabinet();
        int[][] ministers = {{0, 9, 5, 0, 1}, {1, 6, 3, 0, 0}, {2, 8, 0, 0, 0}, {3, 4, 2, 0, 0}, {0, 1, 4, 0, 0}};
        for (int m = 0; m < ministers.length; m++) {
            for (int what = 0; what < 5; what++) {
                check.due("minister(" + m + ", " + what + ")", x.minister(m, what), ministers[m][what]);
            }
        }
        int[] wax = {0, 0, 0, 2, 0, 4, 1, 0, 0, 6};
        int[] on = {0, 1, 0, 0, 1, 0, 1, 0, 1, 1};
        for (int s = 0; s < wax.length; s++) {
            check.due("step(" + s + ", 0)", x.step(s, 0), wax[s]);
            check.due("step(" + s + ", 1)", x.step(s, 1), s == 2 ? 1 : 0);
            check.due("step(" + s + ", 2)", x.step(s, 2), s == 5 ? 1 : 0);
            check.due("step(" + s + ", 3)", x.step(s, 3), on[s]);
        }
    }

    @Sentence("Promise 1: As told")
    static void newHasNothingElse() {
        BannisterCabinet x = new BannisterCabinet();
        int[] counts = {5, 10, 0, 20, 13, 0, 0, 0, 0, Check.BAD};
        for (int what = 0; what < counts.length; what++) {
            check.due("count(" + what + ")", x.count(what), counts[what]);
        }
        check.due("undo()", x.undo(), Check.NO);
        check.due("back()", x.back(), Check.NO);
        check.due("forget()", x.forget(), 0);
    }

    @Sentence("Promise 1: THE TEXT is empty.")
    static void newHasAnEmptyText() {
        BannisterCabinet x = new BannisterCabinet();
        check.due("count(8)", x.count(8), 0);
        check.due("fault()", x.fault(), Check.NONE);
        check.due("wipe()", x.wipe(), 0);
        check.due("lay() of nothing", x.lay(), Check.NO);
        check.due("write(65)", x.write(65), 1);
    }

    @Sentence("What it is: An object is used for at most 512 calls after it has been made")
    static void holdsFor512Calls() {
        BannisterCabinet x = new BannisterCabinet();
        for (int call = 1; call <= 254; call++) {
            check.due("pass(3)", x.pass(3), 3);
            check.due("undo()", x.undo(), 0);
        }
        for (int year = 1; year <= 3; year++) {
            check.due("pass(1)", x.pass(1), year);
        }
        check.due("count(3), the 512th call", x.count(3), 29);
    }

    @Sentence("What it is: what later calls answer is free")
    static void doesNotThrowBehind512Calls() {
        BannisterCabinet x = new BannisterCabinet();
        for (int call = 0; call < 3000; call++) {
            x.write('w');
            x.pass(40);
            x.wax(call % 12);
            x.sand(call % 11);
            x.help(call % 6);
            x.keep();
            x.seen(call % 6, call % 11);
            x.likely(call % 6, 6, 5, 0);
            x.undo();
        }
        check.due("lay() of too many w, at last", x.lay(), Check.NO);
    }

    // ---- promises 2 and 3

    @Sentence("Promise 2: A letter (32 to 126, as in ASCII) comes behind THE TEXT")
    static void writesLettersFrom32To126() {
        BannisterCabinet x = new BannisterCabinet();
        for (int letter = 32; letter <= 126; letter++) {
            check.due("write(" + letter + ")", x.write(letter), letter - 31);
        }
        x = Check.written("f7;m0,0,0;");
        check.due("lay()", x.lay(), 1);
        x.write(' ');
        check.due("fault() where 32 came behind it", x.fault(), 10);
    }

    @Sentence("Promise 2: BAD")
    static void writeRefusesWhatIsNoLetter() {
        for (int letter : new int[] {31, 127, 0, -1, 128, 'f' + 256, 'f' + 65536, 'f' - 65536, Integer.MAX_VALUE,
            Integer.MIN_VALUE}) {
            check.refused("write(" + letter + ")", Check::busy, x -> x.write(letter), Check.BAD);
        }
    }

    @Sentence("Promise 2: how long it is")
    static void writeAnswersTheLength() {
        BannisterCabinet x = new BannisterCabinet();
        check.due("write, the first", x.write('f'), 1);
        check.due("write, the second", x.write('f'), 2);
        x.write(31);
        check.due("write, the third", x.write('f'), 3);
        x.wipe();
        check.due("write, the first again", x.write('f'), 1);
    }

    @Sentence("What it is: A TEXT is letters (200 at most)")
    static void laysATextOf200Letters() {
        String text = "s16;m0,0,0;" + "w9,9;".repeat(37) + "k10;";
        BannisterCabinet x = check.laid(text);
        check.due("count(8)", x.count(8), 200);
        check.due("fault()", x.fault(), Check.NONE);
        check.due("step(10, 1), told by the last letters", x.step(10, 1), 1);
    }

    @Sentence("Promise 2: FULL")
    static void writeIsFullBehind200Letters() {
        BannisterCabinet x = new BannisterCabinet();
        for (int length = 1; length <= 200; length++) {
            check.due("write(102)", x.write('f'), length);
        }
        check.due("write(102), the 201st", x.write('f'), Check.FULL);
        check.due("write(102), once more", x.write('f'), Check.FULL);
        check.due("count(8)", x.count(8), 200);
        check.due("wipe()", x.wipe(), 200);
        check.due("write(102)", x.write('f'), 1);
    }

    @Sentence("Terms: nothing changes then")
    static void writeChangesNothingWhenFull() {
        String text = "s16;m0,0,0;" + "w9,9;".repeat(37) + "k10;";
        check.refused("write(120), the 201st", () -> Check.written(text), x -> x.write('x'), Check.FULL);
    }

    @Sentence("Terms: Of several the first in this order")
    static void writeIsBadAheadOfFull() {
        check.refused("write(31), the 201st", () -> Check.written("f".repeat(200)), x -> x.write(31), Check.BAD);
        check.refused("write(127), the 201st", () -> Check.written("f".repeat(200)), x -> x.write(127), Check.BAD);
    }

    @Sentence("Promise 3: THE TEXT is empty: how long it was.")
    static void wipesAndAnswersTheLength() {
        BannisterCabinet x = Check.written("zzz");
        check.due("wipe()", x.wipe(), 3);
        check.due("count(8)", x.count(8), 0);
        check.due("fault()", x.fault(), Check.NONE);
        Check.write(x, "f1;");
        check.due("fault()", x.fault(), Check.NONE);
    }

    @Sentence("Promise 3: THE TEXT is empty")
    static void wipesWhatIsEmpty() {
        BannisterCabinet x = new BannisterCabinet();
        check.due("wipe() of nothing", x.wipe(), 0);
        check.due("wipe() once more", x.wipe(), 0);
        check.due("count(8)", x.count(8), 0);
    }

    @Sentence("Promise 3: THE TEXT is empty")
    static void wipeLeavesWhatIsLaid() {
        BannisterCabinet x = check.laid("s5;f7;m0,1,1;");
        x.wax(3);
        x.keep();
        x.seen(0, 2);
        check.due("wipe()", x.wipe(), 13);
        int[] counts = {1, 5, 0, 6, 1, 1, 1, 1, 0};
        for (int what = 0; what < counts.length; what++) {
            check.due("count(" + what + ")", x.count(what), counts[what]);
        }
    }

    // ---- promise 4: FAULT, ITEMS and numbers

    @Sentence("Promise 4: NONE")
    static void noFault() {
        faultAt("", Check.NONE);
        faultAt("f1;", Check.NONE);
        faultAt("s16;w15,9;w00,09;w15,0;k15;k15;t0;t0;f99;f0;m3,15,9;m0,0,0;m01,07,02;", Check.NONE);
    }

    @Sentence("Promise 4: FAULT")
    static void faultChangesNothing() {
        BannisterCabinet asked = Check.busy();
        check.due("fault()", asked.fault(), 10);
        check.unchanged("fault()", asked, Check.busy());
        String other = "s4;w1,7;k1;t2;f77;m1,2,3;";
        asked = Check.written(other);
        check.due("fault()", asked.fault(), Check.NONE);
        check.due("count(0)", asked.count(0), 5);
        check.unchanged("fault()", asked, Check.written(other));
    }

    @Sentence("What it is: FAULT: the place (from 0 on) of the first letter of the first ITEM that is not so.")
    static void faultIsWhereTheFirstFaultyItemBegins() {
        faultAt("x", 0);
        faultAt("w0,10;", 0);
        faultAt("f1;w0,10;", 3);
        faultAt("f1;w0,10;y;z;", 3);
        faultAt("f1;f2;w00,09;k", 13);
        faultAt("f1;m0,0,0;m0,0", 10);
        faultAt("s16;" + "w9,9;".repeat(39) + "x", 199);
    }

    @Sentence("What it is: ITEMS one behind the other, each a letter")
    static void itemsBeginWithOneOfSixLetters() {
        isNotSo("x1;", "a1;", "S10;", "W1,1;", "K1;", "T1;", "M0,0,0;", "F1;", "1;", ";", ",", "~1;", "ff1;");
    }

    @Sentence("What it is: ITEMS one behind the other")
    static void nothingComesBetweenItems() {
        isNotSo(" f1;", " ", ";f1;", ",f1;");
        faultAt("f1; ", 3);
        faultAt("f1;;", 3);
        faultAt("f1;;;", 3);
    }

    @Sentence("What it is: then numbers (one or two figures)")
    static void numbersHaveOneOrTwoFigures() {
        isSo("f1;");
        isSo("f01;");
        isSo("w00,09;");
        isSo("w1,1;");
        isSo("k03;");
        isNotSo("f;", "f001;", "f100;", "w001,1;", "w1,001;", "k000;", "t123;", "m000,0,0;", "m0,000,0;", "m0,0,000;",
            "s010;", "f99999999999;");
        faultAt("m01,02,03;", Check.NONE);
    }

    @Sentence("What it is: then numbers (one or two figures)")
    static void numbersHaveNothingButFigures() {
        isNotSo("f-1;", "f+1;", "f 1;", "f1 ;", "f1.;", "f:;", "f/;", "k:;", "k/;", "fa;", "f1f;", "w1,a;", "m0,0,x;");
    }

    @Sentence("What it is: parted by ,")
    static void numbersArePartedByAComma() {
        isNotSo("w1,,1;", "w,1;", "w1,;", "w,1,1;", "w1,1,;", "w1.1;", "w1 1;", "w1;1;", "w1:1;", "f,;", "f1,;", "f,1;",
            "m0,0,;", "m0,,0;", "m,0,0;", "m0;0;0;", "w1, 1;");
    }

    @Sentence("What it is: and a ; behind the last one")
    static void itemsEndWithASemicolon() {
        for (String item : new String[] {"s3", "s3,", "f", "f1", "f12", "f1,", "w1", "w1,", "w1,1", "w1,1,", "k", "k1",
            "k1,", "t1", "t1,", "m0,0,", "m0,0,0", "m0,0,0,"}) {
            faultAt(item, 0);
        }
        faultAt("f1;f1", 3);
        faultAt("f1f2;", 0);
        faultAt("f1:f2;", 0);
        faultAt("f1,f2;", 0);
        faultAt("f12f3;", 0);
    }

    @Sentence("What it is: sS")
    static void stepsHaveOneNumber() {
        faultAt("s10,10;", 0);
        faultAt("s;", 0);
        faultAt("s10,;", 0);
    }

    @Sentence("What it is: wX,W")
    static void waxHasTwoNumbers() {
        isNotSo("w;", "w1;", "w1,1,1;", "w1,1,1,1;", "w1,1,1,1,1,1,1,1,1;");
    }

    @Sentence("What it is: kX")
    static void aKnobHasOneNumber() {
        isNotSo("k;", "k1,1;", "k1,1,1;");
    }

    @Sentence("What it is: tX")
    static void aTurnHasOneNumber() {
        isNotSo("t;", "t1,1;", "t1,1,1;");
    }

    @Sentence("What it is: mK,X,G")
    static void aMinisterHasThreeNumbers() {
        isNotSo("m;", "m0;", "m0,0;", "m0,0,0,0;", "m0,0,0,0,0;");
    }

    @Sentence("What it is: fF")
    static void fundsHaveOneNumber() {
        isNotSo("f;", "f1,2;", "f1,2,3;", "f1,2,3,4;");
    }

    // ---- promise 4: STEPS

    @Sentence("What it is: there are S (3 to 16) STEPS")
    static void thereAre3To16Steps() {
        for (int steps = 3; steps <= 16; steps++) {
            BannisterCabinet x = check.laid("s" + steps + ";m0,0,0;");
            check.due("count(1)", x.count(1), steps);
        }
        for (String item : new String[] {"s2;", "s17;", "s0;", "s1;", "s00;", "s02;", "s99;", "s18;", "s32;"}) {
            faultAt(item, 0);
            faultAt("s5;" + item, 3);
            faultAt(item + "s5;", 0);
        }
    }

    @Sentence("What it is: 0 at the foot, S less 1 at the TOP")
    static void theTopIsSLess1() {
        for (int steps : new int[] {3, 10, 16}) {
            BannisterCabinet x = check.laid("s" + steps + ";m0," + (steps - 1) + ",9;m0,0,9;m0," + (steps - 2) + ",9;");
            check.due("top(0)", x.top(0), 0);
            check.due("top(1)", x.top(1), steps - 1);
            check.due("top(2)", x.top(2), 1);
            check.due("step(S less 1, 3)", x.step(steps - 1, 3), 1);
            check.due("step(0, 3)", x.step(0, 3), 1);
            check.due("step(S, 3)", x.step(steps, 3), Check.BAD);
        }
    }

    @Sentence("What it is: (10 without")
    static void thereAre10StepsWithoutS() {
        BannisterCabinet x = check.laid("s16;m0,15,0;");
        x.wipe();
        Check.write(x, "w9,1;m0,9,0;");
        check.due("lay()", x.lay(), 1);
        check.due("count(1)", x.count(1), 10);
        check.due("step(9, 0)", x.step(9, 0), 1);
        check.due("step(10, 0)", x.step(10, 0), Check.BAD);
        isNotSo("w10,0;", "k10;", "t10;", "m0,10,0;");
    }

    @Sentence("What it is: no other ITEM ahead of it but s")
    static void noOtherItemComesAheadOfSteps() {
        for (String item : new String[] {"w1,1;", "k1;", "t1;", "m0,1,1;", "f1;"}) {
            faultAt(item + "s10;", item.length());
            faultAt("s10;" + item + "s10;", 4 + item.length());
            faultAt("s10;" + item, Check.NONE);
            faultAt("s10;s10;" + item, Check.NONE);
        }
    }

    @Sentence("What it is: of which the last one counts)")
    static void theLastStepsCount() {
        check.due("count(1)", check.laid("s16;s3;m0,2,0;").count(1), 3);
        check.due("count(1)", check.laid("s3;s16;m0,15,0;").count(1), 16);
        check.due("count(1)", check.laid("s3;s16;s4;m0,3,0;").count(1), 4);
        faultAt("s16;s3;m0,3,0;", 7);
        faultAt("s16;s3;w3,0;", 7);
    }

    // ---- promise 4: WAX, KNOBS, TURNS

    @Sentence("What it is: there is W (0 to 9) of WAX")
    static void waxIs0To9() {
        for (int wax = 0; wax <= 9; wax++) {
            check.due("step(4, 0)", check.laid("w4," + wax + ";m0,0,0;").step(4, 0), wax);
        }
        isNotSo("w4,10;", "w4,11;", "w4,99;");
    }

    @Sentence("What it is: at STEP X (0 without; the last one of each)")
    static void waxIsAtAStepThatThereIs() {
        BannisterCabinet x = check.laid("s4;w0,1;w3,2;m0,0,0;");
        check.due("step(0, 0)", x.step(0, 0), 1);
        check.due("step(3, 0)", x.step(3, 0), 2);
        faultAt("s4;w4,0;", 3);
        faultAt("s3;w2,1;", Check.NONE);
        faultAt("s3;w3,1;", 3);
        faultAt("s16;w15,1;", Check.NONE);
        faultAt("s16;w16,1;", 4);
        faultAt("s16;w99,1;", 4);
    }

    @Sentence("What it is: (0 without")
    static void waxIs0Without() {
        BannisterCabinet x = new BannisterCabinet();
        x.wax(0);
        Check.write(x, "w4,3;m0,0,0;");
        check.due("lay()", x.lay(), 1);
        for (int s = 0; s < 10; s++) {
            check.due("step(" + s + ", 0)", x.step(s, 0), s == 4 ? 3 : 0);
        }
    }

    @Sentence("What it is: the last one of each)")
    static void theLastWaxOfEachStepCounts() {
        BannisterCabinet x = check.laid("w3,7;w4,5;w3,2;w5,1;w5,0;m0,0,0;");
        check.due("step(3, 0)", x.step(3, 0), 2);
        check.due("step(4, 0)", x.step(4, 0), 5);
        check.due("step(5, 0)", x.step(5, 0), 0);
    }

    @Sentence("What it is: there is a KNOB at STEP X")
    static void aKnobIsAtAStepThatThereIs() {
        BannisterCabinet x = check.laid("s4;k0;k3;m0,0,0;");
        int[] knobs = {1, 0, 0, 1};
        for (int s = 0; s < knobs.length; s++) {
            check.due("step(" + s + ", 1)", x.step(s, 1), knobs[s]);
            check.due("step(" + s + ", 2)", x.step(s, 2), 0);
        }
        faultAt("s4;k4;", 3);
        faultAt("s16;k15;", Check.NONE);
        faultAt("s16;k16;", 4);
        faultAt("s16;k32;", 4);
    }

    @Sentence("What it is: there is a KNOB at STEP X (no matter if told once more)")
    static void aKnobMayBeToldOnceMore() {
        BannisterCabinet x = check.laid("k4;k4;k5;k5;k5;m0,0,0;");
        check.due("step(4, 1)", x.step(4, 1), 1);
        check.due("step(5, 1)", x.step(5, 1), 1);
        check.due("step(6, 1)", x.step(6, 1), 0);
    }

    @Sentence("What it is: there is a TURN at STEP X")
    static void aTurnIsAtAStepThatThereIs() {
        BannisterCabinet x = check.laid("s4;t0;t3;m0,0,0;");
        int[] turns = {1, 0, 0, 1};
        for (int s = 0; s < turns.length; s++) {
            check.due("step(" + s + ", 2)", x.step(s, 2), turns[s]);
            check.due("step(" + s + ", 1)", x.step(s, 1), 0);
        }
        faultAt("s4;t4;", 3);
        faultAt("s16;t15;", Check.NONE);
        faultAt("s16;t16;", 4);
        faultAt("s16;t32;", 4);
    }

    @Sentence("What it is: there is a TURN at STEP X (no matter if told once more)")
    static void aTurnMayBeToldOnceMore() {
        BannisterCabinet x = check.laid("t4;t4;t5;t5;t5;k4;m0,0,0;");
        check.due("step(4, 2)", x.step(4, 2), 1);
        check.due("step(4, 1)", x.step(4, 1), 1);
        check.due("step(5, 2)", x.step(5, 2), 1);
        check.due("step(6, 2)", x.step(6, 2), 0);
    }

    // ---- promise 4: MINISTERS, FUNDS

    @Sentence("What it is: a MINISTER of KIND K (0 PLAIN, 1 VELVET, 2 GAITERED, 3 HOLDER)")
    static void kindsAre0To3() {
        BannisterCabinet x = check.laid("m3,0,0;m2,0,0;m1,0,0;m0,0,0;");
        for (int m = 0; m < 4; m++) {
            check.due("minister(" + m + ", 0)", x.minister(m, 0), 3 - m);
        }
        isNotSo("m4,0,0;", "m5,0,0;", "m10,0,0;", "m99,0,0;");
    }

    @Sentence("What it is: on STEP X")
    static void aMinisterIsOnAStepThatThereIs() {
        BannisterCabinet x = check.laid("s4;m0,0,0;m0,3,0;");
        check.due("minister(0, 1)", x.minister(0, 1), 0);
        check.due("minister(1, 1)", x.minister(1, 1), 3);
        faultAt("s4;m0,4,0;", 3);
        faultAt("s16;m0,15,0;", Check.NONE);
        faultAt("s16;m0,16,0;", 4);
    }

    @Sentence("What it is: with GRIP G (0 to 9)")
    static void gripsAre0To9() {
        BannisterCabinet x = check.laid("m0,0,0;m0,0,9;m0,0,08;");
        check.due("minister(0, 2)", x.minister(0, 2), 0);
        check.due("minister(1, 2)", x.minister(1, 2), 9);
        check.due("minister(2, 2)", x.minister(2, 2), 8);
        isNotSo("m0,0,10;", "m0,0,99;");
    }

    @Sentence("What it is: 7 at most")
    static void thereAre7MinistersAtMost() {
        String seven = "m0,1,1;".repeat(7);
        check.due("count(0)", check.laid(seven).count(0), 7);
        faultAt(seven + "m0,1,1;", seven.length());
        faultAt(seven + "f3;", Check.NONE);
        faultAt(seven + "f3;m0,1,1;", seven.length() + 3);
        faultAt("m0,1,1;" + "m0,1,1;w1,1;".repeat(7), 7 + 6 * 12);
    }

    @Sentence("What it is: 0, 1, ..")
    static void ministersAreNumberedFrom0() {
        BannisterCabinet x = check.laid("m0,6,0;m0,5,1;f3;m0,4,2;m0,3,3;w1,1;m0,2,4;m0,1,5;m0,0,6;");
        for (int m = 0; m < 7; m++) {
            check.due("minister(" + m + ", 1)", x.minister(m, 1), 6 - m);
            check.due("minister(" + m + ", 2)", x.minister(m, 2), m);
        }
        check.due("minister(7, 1)", x.minister(7, 1), Check.BAD);
    }

    @Sentence("What it is: the FUNDS are F (0 to 99)")
    static void fundsAre0To99() {
        check.due("count(3)", check.laid("f0;m0,0,0;").count(3), 0);
        check.due("count(3)", check.laid("f00;m0,0,0;").count(3), 0);
        check.due("count(3)", check.laid("f99;m0,0,0;").count(3), 99);
        isNotSo("f100;", "f-1;");
    }

    @Sentence("What it is: (20 without")
    static void fundsAre20Without() {
        BannisterCabinet x = check.laid("f7;m0,0,0;");
        x.wipe();
        Check.write(x, "m0,0,0;");
        check.due("lay()", x.lay(), 1);
        check.due("count(3)", x.count(3), 20);
    }

    @Sentence("What it is: of several the last one counts)")
    static void theLastFundsCount() {
        check.due("count(3)", check.laid("f7;f3;m0,0,0;").count(3), 3);
        check.due("count(3)", check.laid("f3;m0,0,0;f7;").count(3), 7);
        check.due("count(3)", check.laid("f7;m0,0,0;f0;").count(3), 0);
    }

    // ---- promise 5

    @Sentence("Promise 5: LAID: how many MINISTERS")
    static void layAnswersHowMany() {
        check.due("lay()", Check.written("m0,0,0;").lay(), 1);
        check.due("lay()", Check.written("m0,0,0;".repeat(7)).lay(), 7);
    }

    @Sentence("Promise 5: LAID")
    static void layTakesNothingOver() {
        BannisterCabinet x = check.laid("s16;w15,9;k3;t4;f7;m3,15,9;m2,3,3;");
        x.wipe();
        Check.write(x, "s4;s12;w3,7;w3,2;w11,9;k2;k2;t5;f7;f3;m2,3,8;m1,0,4;");
        check.due("lay()", x.lay(), 2);
        int[] counts = {2, 12, 0, 3, 11, 0, 0, 0, 52};
        for (int what = 0; what < counts.length; what++) {
            check.due("count(" + what + ")", x.count(what), counts[what]);
        }
        int[] first = {2, 3, 8, 0, 0};
        int[] second = {1, 0, 4, 0, 0};
        for (int what = 0; what < 5; what++) {
            check.due("minister(0, " + what + ")", x.minister(0, what), first[what]);
            check.due("minister(1, " + what + ")", x.minister(1, what), second[what]);
        }
        for (int s = 0; s < 12; s++) {
            check.due("step(" + s + ", 1)", x.step(s, 1), s == 2 ? 1 : 0);
            check.due("step(" + s + ", 2)", x.step(s, 2), s == 5 ? 1 : 0);
        }
    }

    @Sentence("Promise 5: YEAR 0")
    static void layBeginsInYear0() {
        BannisterCabinet x = Check.written("m0,0,0;");
        x.pass(40);
        check.due("lay()", x.lay(), 1);
        check.due("count(2)", x.count(2), 0);
        check.due("pass(1)", x.pass(1), 1);
    }

    @Sentence("Promise 5: nobody has GOVERNED")
    static void layForgetsWhoGoverned() {
        BannisterCabinet x = Check.written("m0,0,0;m0,0,0;m0,0,0;");
        x.pass(40);
        check.due("lay()", x.lay(), 3);
        for (int m = 0; m < 3; m++) {
            check.due("minister(" + m + ", 3)", x.minister(m, 3), 0);
        }
    }

    @Sentence("Promise 5: nothing SEEN, UNDONE, KEPT")
    static void layForgetsWhatWasSeen() {
        BannisterCabinet x = Check.written("m0,0,0;");
        for (int i = 0; i < 6; i++) {
            x.seen(0, 9);
        }
        check.due("lay()", x.lay(), 1);
        check.due("count(5)", x.count(5), 0);
        check.due("waxes(0)", x.waxes(0), 1023);
        check.due("forget()", x.forget(), 0);
    }

    @Sentence("Promise 5: nothing SEEN, UNDONE, KEPT")
    static void layLeavesNothingToUndo() {
        BannisterCabinet x = Check.written("m0,0,0;");
        for (int i = 0; i < 9; i++) {
            x.wax(i);
        }
        check.due("lay()", x.lay(), 1);
        check.due("count(6)", x.count(6), 0);
        check.due("undo()", x.undo(), Check.NO);
    }

    @Sentence("Promise 5: nothing SEEN, UNDONE, KEPT")
    static void layLeavesNothingKept() {
        BannisterCabinet x = Check.written("m0,0,0;");
        x.keep();
        x.keep();
        check.due("lay()", x.lay(), 1);
        check.due("count(7)", x.count(7), 0);
        check.due("back()", x.back(), Check.NO);
        check.due("keep()", x.keep(), 1);
    }

    @Sentence("Promise 5: (THE TEXT stays)")
    static void layLeavesTheText() {
        BannisterCabinet x = check.laid("s5;m0,1,0;");
        check.due("count(8)", x.count(8), 10);
        x.pass(2);
        check.due("lay() once more", x.lay(), 1);
        check.due("minister(0, 1)", x.minister(0, 1), 1);
        check.due("write(102)", x.write('f'), 11);
        check.due("fault()", x.fault(), 10);
    }

    @Sentence("Terms: LAID is a TEXT without FAULT")
    static void layRefusesAFault() {
        check.refused("lay() with a FAULT behind a MINISTER", Check::busy, BannisterCabinet::lay, Check.NO);
        check.refused("lay() with a FAULT at once", () -> Check.written("x"), BannisterCabinet::lay, Check.NO);
        check.refused("lay() with an 8th", () -> Check.written("m0,0,0;".repeat(8)), BannisterCabinet::lay, Check.NO);
    }

    @Sentence("Terms: of a MINISTER at least (NO else")
    static void layRefusesNoMinister() {
        check.refused("lay() without m", () -> Check.written("s4;w1,1;k1;t1;f1;"), BannisterCabinet::lay, Check.NO);
        check.refused("lay() of s3;", () -> Check.written("s3;"), BannisterCabinet::lay, Check.NO);
    }

    @Sentence("Promise 5: NO")
    static void layRefusesNothing() {
        check.refused("lay() of nothing", BannisterCabinet::new, BannisterCabinet::lay, Check.NO);
    }
}
