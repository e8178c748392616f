/** Promises 9 to 12 and 27 to 29: WAX, SAND, who is HELPED DOWN, what is UNDONE, what is KEPT, how many. */
public final class ActsTest {
    private static final Check check = new Check();

    public static void main(String[] args) throws Exception {
        check.sentencesOf(ActsTest.class);
        check.end();
    }

    // ---- promise 9

    @Sentence("Terms: WAX is put on a STEP (1 more, 9 at most) for 1 of the FUNDS")
    static void waxIsOneMoreForOne() {
        BannisterCabinet x = check.laid("s4;f9;m0,0,9;");
        for (int s : new int[] {0, 3}) {
            check.due("wax(" + s + ")", x.wax(s), 1);
            check.due("wax(" + s + ")", x.wax(s), 2);
            check.due("step(" + s + ", 0)", x.step(s, 0), 2);
        }
        check.due("count(3)", x.count(3), 5);
        check.due("count(4)", x.count(4), 4);
        check.due("count(2)", x.count(2), 0);
    }

    @Sentence("Promise 9: NO: 9")
    static void waxIs9AtMost() {
        BannisterCabinet x = check.laid("s4;w3,8;f9;m0,0,9;");
        check.due("wax(3)", x.wax(3), 9);
        check.due("wax(3)", x.wax(3), Check.NO);
        check.due("wax(2)", x.wax(2), 1);
        check.refused("wax(3)", () -> Check.palace("s4;w3,9;f9;m0,0,9;"), y -> y.wax(3), Check.NO);
    }

    @Sentence("Promise 9: no FUNDS")
    static void waxNeedsFunds() {
        BannisterCabinet x = check.laid("s4;f1;m0,0,9;");
        check.due("wax(3), for the last FUNDS", x.wax(3), 1);
        check.due("count(3)", x.count(3), 0);
        check.due("wax(3)", x.wax(3), Check.NO);
        check.refused("wax(3)", () -> Check.palace("s4;f0;m0,0,9;"), y -> y.wax(3), Check.NO);
        check.refused("wax(3)", () -> Check.palace("s4;w3,9;f0;m0,0,9;"), y -> y.wax(3), Check.NO);
    }

    @Sentence("Promise 9: BAD")
    static void waxRefusesNoStep() {
        for (int s : Check.outside(0, 3)) {
            check.refused("wax(" + s + ")", Check::busy, x -> x.wax(s), Check.BAD);
        }
    }

    @Sentence("Terms: Of several the first in this order")
    static void waxIsBadAheadOfNo() {
        check.refused("wax(4)", () -> Check.palace("s4;f0;m0,0,9;"), x -> x.wax(4), Check.BAD);
        check.refused("wax(-1)", () -> Check.palace("s4;f0;m0,0,9;"), x -> x.wax(-1), Check.BAD);
    }

    // ---- promise 10

    @Sentence("Terms: SAND is (2 less, 0 at least) for 2.")
    static void sandIsTwoLessForTwo() {
        BannisterCabinet x = check.laid("s4;w3,9;w0,3;f9;m0,0,9;");
        check.due("sand(3)", x.sand(3), 7);
        check.due("sand(3)", x.sand(3), 5);
        check.due("sand(0)", x.sand(0), 1);
        check.due("step(3, 0)", x.step(3, 0), 5);
        check.due("step(0, 0)", x.step(0, 0), 1);
        check.due("count(3)", x.count(3), 3);
    }

    @Sentence("Terms: (2 less, 0 at least)")
    static void sandLeaves0AtLeast() {
        BannisterCabinet x = check.laid("s4;w3,1;w2,2;f9;m0,0,9;");
        check.due("sand(3) on 1", x.sand(3), 0);
        check.due("count(3), 2 less all the same", x.count(3), 7);
        check.due("step(3, 0)", x.step(3, 0), 0);
        check.due("sand(2) on 2", x.sand(2), 0);
        check.due("count(4)", x.count(4), 0);
    }

    @Sentence("Promise 10: NO: none")
    static void sandNeedsWax() {
        check.refused("sand(3)", () -> Check.palace("s4;w2,9;f9;m0,0,9;"), x -> x.sand(3), Check.NO);
        BannisterCabinet x = check.laid("s4;w3,2;f9;m0,0,9;");
        check.due("sand(3)", x.sand(3), 0);
        check.due("sand(3)", x.sand(3), Check.NO);
        check.due("count(3)", x.count(3), 7);
    }

    @Sentence("Promise 10: fewer than 2 of FUNDS")
    static void sandNeeds2OfFunds() {
        BannisterCabinet x = check.laid("s4;w3,9;f2;m0,0,9;");
        check.due("sand(3), for the last FUNDS", x.sand(3), 7);
        check.due("count(3)", x.count(3), 0);
        check.due("sand(3)", x.sand(3), Check.NO);
        check.refused("sand(3) for 1", () -> Check.palace("s4;w3,9;f1;m0,0,9;"), y -> y.sand(3), Check.NO);
        check.refused("sand(3) for 0", () -> Check.palace("s4;w3,9;f0;m0,0,9;"), y -> y.sand(3), Check.NO);
        check.refused("sand(3) of 1 for 1", () -> Check.palace("s4;w3,1;f1;m0,0,9;"), y -> y.sand(3), Check.NO);
        check.due("sand(3)", Check.palace("s4;w3,9;f3;m0,0,9;").sand(3), 7);
    }

    @Sentence("Promise 10: BAD")
    static void sandRefusesNoStep() {
        for (int s : Check.outside(0, 3)) {
            check.refused("sand(" + s + ")", Check::busy, x -> x.sand(s), Check.BAD);
        }
    }

    @Sentence("Terms: Of several the first in this order")
    static void sandIsBadAheadOfNo() {
        check.refused("sand(4)", () -> Check.palace("s4;f0;m0,0,9;"), x -> x.sand(4), Check.BAD);
        check.refused("sand(-1)", () -> Check.palace("s4;f0;m0,0,9;"), x -> x.sand(-1), Check.BAD);
    }

    // ---- promise 11

    @Sentence("Terms: A MINISTER is HELPED DOWN to STEP 0.")
    static void helpBringsHimTo0() {
        BannisterCabinet x = check.laid("s4;f0;w3,5;w0,1;k2;m0,3,9;m1,1,0;");
        check.due("help(0)", x.help(0), 3);
        check.due("minister(0, 1)", x.minister(0, 1), 0);
        check.due("help(1)", x.help(1), 1);
        check.due("minister(1, 1)", x.minister(1, 1), 0);
        // he does not slide: no WAX goes, and no FUNDS
        check.due("count(4)", x.count(4), 6);
        check.due("count(3)", x.count(3), 0);
        check.due("count(2)", x.count(2), 0);
    }

    @Sentence("Promise 11: NO: 0.")
    static void helpRefusesWhoIsAtTheFoot() {
        check.refused("help(0)", () -> Check.palace("s4;m0,0,9;m0,3,9;"), x -> x.help(0), Check.NO);
        BannisterCabinet x = check.laid("s4;m0,1,9;");
        check.due("help(0)", x.help(0), 1);
        check.due("help(0)", x.help(0), Check.NO);
        check.due("count(6)", x.count(6), 1);
    }

    @Sentence("Promise 11: BAD")
    static void helpRefusesNoMinister() {
        for (int m : Check.outside(0, 1)) {
            check.refused("help(" + m + ")", Check::busy, x -> x.help(m), Check.BAD);
        }
        check.due("help(6)", Check.palace("m0,3,0;".repeat(7)).help(6), 3);
        check.due("help(7)", Check.palace("m0,3,0;".repeat(7)).help(7), Check.BAD);
    }

    @Sentence("Terms: Of several the first in this order")
    static void helpIsBadAheadOfNo() {
        check.refused("help(1)", () -> Check.palace("s4;m0,0,9;"), x -> x.help(1), Check.BAD);
    }

    // ---- promise 12

    @Sentence("Terms: UNDONE is the latest of these")
    static void undoTakesBackTheLatest() {
        BannisterCabinet x = check.laid("s4;w3,5;f5;m0,3,4;m0,1,9;");
        x.wax(1);
        x.sand(3);
        x.help(0);
        check.due("undo(), help", x.undo(), 2);
        check.due("minister(0, 1)", x.minister(0, 1), 3);
        check.due("undo(), sand", x.undo(), 1);
        check.due("step(3, 0)", x.step(3, 0), 5);
        check.due("count(3)", x.count(3), 4);
        check.due("undo(), wax", x.undo(), 0);
        check.due("step(1, 0)", x.step(1, 0), 0);
        check.due("count(3)", x.count(3), 5);
    }

    @Sentence("Terms: of YEARS (all of one call at once")
    static void undoTakesBackAllYearsOfOneCall() {
        BannisterCabinet x = check.laid("s6;w4,3;f50;m0,4,0;m0,1,9;");
        x.pass(2);
        x.pass(40);
        check.due("count(6)", x.count(6), 2);
        check.due("undo()", x.undo(), 1);
        check.due("count(2)", x.count(2), 2);
        check.due("count(3)", x.count(3), 56);
        check.due("minister(1, 1)", x.minister(1, 1), 3);
        check.due("undo()", x.undo(), 0);
        int[] counts = {2, 6, 0, 50, 3};
        for (int what = 0; what < counts.length; what++) {
            check.due("count(" + what + ")", x.count(what), counts[what]);
        }
        check.due("minister(0, 1)", x.minister(0, 1), 4);
        check.due("minister(0, 3)", x.minister(0, 3), 0);
        check.due("minister(1, 1)", x.minister(1, 1), 1);
        check.due("minister(1, 3)", x.minister(1, 3), 0);
    }

    @Sentence("Terms: such by which nothing becomes another, too")
    static void undoTakesBackYearsByWhichNothingBecomesAnother() {
        // at the TOP, and the FUNDS are 99
        BannisterCabinet x = check.laid("s3;f99;m0,2,9;");
        x.wax(0);
        x.pass(1);
        check.due("count(6)", x.count(6), 2);
        x.pass(1);
        check.due("count(6)", x.count(6), 3);
        check.due("undo()", x.undo(), 2);
        check.due("count(2)", x.count(2), 1);
        check.due("undo()", x.undo(), 1);
        check.due("step(0, 0)", x.step(0, 0), 1);
        // at the foot, stuck in WAX
        x = check.laid("s3;f99;w0,9;m0,0,0;");
        check.due("pass(1)", x.pass(1), 1);
        check.due("undo()", x.undo(), 0);
    }

    @Sentence("Terms: the last 8 can be)")
    static void theLast8CanBeUndone() {
        BannisterCabinet x = check.laid("s4;f50;m0,3,4;");
        for (int i = 1; i <= 9; i++) {
            check.due("wax(0)", x.wax(0), i);
            check.due("count(6)", x.count(6), Math.min(i, 8));
        }
        x.wax(1);
        for (int left = 7; left >= 0; left--) {
            check.due("undo()", x.undo(), left);
        }
        check.due("undo()", x.undo(), Check.NO);
        // the first two of ten are past being UNDONE
        check.due("step(0, 0)", x.step(0, 0), 2);
        check.due("step(1, 0)", x.step(1, 0), 0);
        check.due("count(3)", x.count(3), 48);
    }

    @Sentence("Terms: the last 8 can be)")
    static void theLast8CanBeUndoneAfterSomeWere() {
        BannisterCabinet x = check.laid("s4;f50;m0,3,4;");
        for (int i = 0; i < 9; i++) {
            x.wax(0);
        }
        x.wax(1);
        x.wax(1);
        check.due("undo()", x.undo(), 7);
        check.due("step(1, 0)", x.step(1, 0), 1);
        x.wax(2);
        check.due("count(6)", x.count(6), 8);
        for (int left = 7; left >= 0; left--) {
            check.due("undo()", x.undo(), left);
        }
        check.due("undo()", x.undo(), Check.NO);
        check.due("step(0, 0)", x.step(0, 0), 3);
        check.due("step(1, 0)", x.step(1, 0), 0);
        check.due("step(2, 0)", x.step(2, 0), 0);
        check.due("count(3)", x.count(3), 47);
    }

    @Sentence("Promise 12: how many more can be")
    static void undoAnswersHowManyMore() {
        BannisterCabinet x = check.laid("s4;m0,3,4;");
        x.wax(0);
        check.due("undo(), the only one", x.undo(), 0);
        x.wax(0);
        x.help(0);
        check.due("undo(), of two", x.undo(), 1);
        x.pass(1);
        check.due("undo(), of two", x.undo(), 1);
        check.due("undo()", x.undo(), 0);
    }

    @Sentence("Promise 12: NO")
    static void undoRefusesNothing() {
        check.refused("undo()", BannisterCabinet::new, BannisterCabinet::undo, Check.NO);
        check.refused("undo() behind undo()", ActsTest::allUndone, BannisterCabinet::undo, Check.NO);
    }

    private static BannisterCabinet allUndone() {
        BannisterCabinet x = Check.palace("s4;w3,5;m0,3,4;");
        x.pass(3);
        x.undo();
        return x;
    }

    @Sentence("Terms: UNDONE is the latest of these")
    static void nothingElseIsUndone() {
        BannisterCabinet x = check.laid("s4;w3,5;m0,3,4;");
        x.wax(0);
        x.keep();
        x.seen(0, 2);
        x.write('f');
        x.behind(3, 0, 0);
        check.due("count(6)", x.count(6), 1);
        check.due("undo()", x.undo(), 0);
        check.due("step(0, 0)", x.step(0, 0), 0);
        check.due("count(5)", x.count(5), 1);
        check.due("count(7)", x.count(7), 1);
        check.due("count(8)", x.count(8), 16);
        x.seen(0, 2);
        x.forget();
        x.wipe();
        check.due("undo()", x.undo(), Check.NO);
    }

    // ---- promises 27 and 28

    @Sentence("Terms: KEPT is all as it stands")
    static void keptIsAllAsItStands() {
        BannisterCabinet x = check.laid("s4;w3,6;w1,2;f9;m0,3,4;m2,1,5;");
        x.pass(2);
        x.wax(0);
        x.keep();
        x.sand(3);
        x.wax(2);
        x.help(0);
        x.pass(30);
        check.due("back()", x.back(), 0);
        int[] counts = {2, 4, 2, 14, 8};
        for (int what = 0; what < counts.length; what++) {
            check.due("count(" + what + ")", x.count(what), counts[what]);
        }
        int[] wax = {1, 2, 0, 5};
        for (int s = 0; s < wax.length; s++) {
            check.due("step(" + s + ", 0)", x.step(s, 0), wax[s]);
        }
        for (int m = 0; m < 2; m++) {
            check.due("minister(" + m + ", 1)", x.minister(m, 1), 3);
            check.due("minister(" + m + ", 2)", x.minister(m, 2), 4 + m);
            check.due("minister(" + m + ", 3)", x.minister(m, 3), 2 - 2 * m);
        }
    }

    @Sentence("Terms: but THE TEXT and what is SEEN")
    static void textAndSeenAreNotKept() {
        BannisterCabinet x = check.laid("s4;m0,0,0;");
        x.seen(0, 1);
        x.keep();
        x.wipe();
        x.write('x');
        x.seen(0, 2);
        x.keep();
        x.forget();
        x.seen(0, 3);
        check.due("back()", x.back(), 1);
        check.due("count(5)", x.count(5), 1);
        check.due("waxes(0)", x.waxes(0), 0);
        check.due("count(8)", x.count(8), 1);
        check.due("fault()", x.fault(), 0);
        check.due("back()", x.back(), 0);
        check.due("count(5)", x.count(5), 1);
        check.due("count(8)", x.count(8), 1);
    }

    @Sentence("Terms: 2 at most")
    static void twoAreKeptAtMost() {
        BannisterCabinet x = check.laid("s4;m0,0,0;");
        check.due("keep()", x.keep(), 1);
        x.pass(1);
        check.due("keep()", x.keep(), 2);
        x.pass(1);
        check.due("keep()", x.keep(), Check.FULL);
        check.due("back()", x.back(), 1);
        check.due("count(2)", x.count(2), 1);
        check.due("keep(), there being room again", x.keep(), 2);
        check.due("keep()", x.keep(), Check.FULL);
    }

    @Sentence("Promise 27: KEPT: how many.")
    static void keepAnswersHowMany() {
        BannisterCabinet x = check.laid("s4;m0,0,0;");
        x.wax(0);
        check.due("keep()", x.keep(), 1);
        check.due("count(6), as ahead of it", x.count(6), 1);
        check.due("keep()", x.keep(), 2);
        check.due("count(7)", x.count(7), 2);
        check.due("undo()", x.undo(), 0);
        check.due("count(7)", x.count(7), 2);
    }

    private static BannisterCabinet twoKept() {
        BannisterCabinet x = Check.palace("s4;w3,5;m0,3,4;");
        x.keep();
        x.pass(3);
        x.keep();
        x.wax(0);
        return x;
    }

    @Sentence("Promise 27: FULL")
    static void keepIsFullBehindTwo() {
        check.refused("keep(), the third", ActsTest::twoKept, BannisterCabinet::keep, Check.FULL);
    }

    @Sentence("Promise 28: As KEPT last (it is KEPT no more then): how many are left")
    static void backTakesTheLatestFirst() {
        BannisterCabinet x = twoKept();
        check.due("back()", x.back(), 1);
        check.due("count(2)", x.count(2), 3);
        check.due("step(0, 0)", x.step(0, 0), 0);
        check.due("count(7)", x.count(7), 1);
        check.due("back()", x.back(), 0);
        check.due("count(2)", x.count(2), 0);
        check.due("count(7)", x.count(7), 0);
        check.due("back()", x.back(), Check.NO);
        check.due("count(2)", x.count(2), 0);
    }

    @Sentence("Promise 28: As KEPT last")
    static void whatIsKeptOnceMoreTakesItsPlace() {
        BannisterCabinet x = twoKept();
        x.back();
        x.wax(2);
        check.due("keep()", x.keep(), 2);
        x.wax(2);
        check.due("back()", x.back(), 1);
        check.due("step(2, 0)", x.step(2, 0), 1);
        check.due("back()", x.back(), 0);
        check.due("step(2, 0)", x.step(2, 0), 0);
        check.due("count(2)", x.count(2), 0);
    }

    @Sentence("Promise 28: nothing is UNDONE then")
    static void backLeavesNothingToUndo() {
        BannisterCabinet x = Check.palace("s4;w3,5;m0,3,4;");
        x.wax(0);
        x.keep();
        for (int i = 0; i < 9; i++) {
            x.pass(1);
        }
        check.due("back()", x.back(), 0);
        check.due("count(6)", x.count(6), 0);
        check.due("undo()", x.undo(), Check.NO);
        check.due("step(0, 0)", x.step(0, 0), 1);
        x.wax(0);
        check.due("count(6)", x.count(6), 1);
        check.due("undo()", x.undo(), 0);
        check.due("step(0, 0)", x.step(0, 0), 1);
    }

    private static BannisterCabinet nothingKept() {
        BannisterCabinet x = Check.palace("s4;w3,5;m0,3,4;");
        x.keep();
        x.back();
        x.pass(3);
        x.wax(0);
        return x;
    }

    @Sentence("Promise 28: NO")
    static void backRefusesNothing() {
        check.refused("back()", BannisterCabinet::new, BannisterCabinet::back, Check.NO);
        check.refused("back() with something to undo", ActsTest::nothingKept, BannisterCabinet::back, Check.NO);
    }

    // ---- promise 29

    @Sentence("Promise 29: How many: 0 MINISTERS, 1 STEPS, 2 the YEAR, 3 FUNDS, 4 WAX of all STEPS, 5 SEEN,"
        + " 6 that can be UNDONE, 7 KEPT, 8 letters of THE TEXT.")
    static void countTellsHowMany() {
        BannisterCabinet x = check.laid("s7;w3,5;w6,9;f50;m0,3,4;m0,1,9;m2,6,9;");
        x.wax(0);
        x.pass(2);
        x.keep();
        x.seen(1, 1);
        x.seen(1, 2);
        int[] counts = {3, 7, 2, 55, 14, 2, 2, 1, 38};
        for (int what = 0; what < counts.length; what++) {
            check.due("count(" + what + ")", x.count(what), counts[what]);
        }
    }

    @Sentence("Promise 29: How many")
    static void countTellsTheLeast() {
        BannisterCabinet x = check.laid("s3;f0;m0,0,0;");
        x.wipe();
        int[] counts = {1, 3, 0, 0, 0, 0, 0, 0, 0};
        for (int what = 0; what < counts.length; what++) {
            check.due("count(" + what + ")", x.count(what), counts[what]);
        }
    }

    @Sentence("Promise 29: How many")
    static void countTellsTheMost() {
        StringBuilder text = new StringBuilder("s16;f99;");
        for (int s = 0; s < 16; s++) {
            text.append('w').append(s).append(",9;");
        }
        text.append("m3,15,9;".repeat(7));
        BannisterCabinet x = check.laid(text.toString());
        for (int i = 0; i < 24; i++) {
            x.pass(40);
        }
        x.pass(39);
        for (int i = 0; i < 6; i++) {
            x.seen(i, 15);
        }
        x.keep();
        x.keep();
        while (x.count(8) < 200) {
            x.write('x');
        }
        int[] counts = {7, 16, 999, 99, 144, 6, 8, 2, 200};
        for (int what = 0; what < counts.length; what++) {
            check.due("count(" + what + ")", x.count(what), counts[what]);
        }
    }

    @Sentence("Promise 29: BAD")
    static void countRefusesWhatIsNotTold() {
        for (int what : Check.outside(0, 8)) {
            check.refused("count(" + what + ")", Check::busy, x -> x.count(what), Check.BAD);
        }
    }
}
