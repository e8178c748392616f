/** Promises 13 to 20: who GOVERNS, what is BEHIND, SLIDE, TOP, TOPPLE, PLOT, HOLD, CABINET. */
public final class ComingTest {
    /** In the third YEAR the first slips from the TOP, in the fourth he is back. */
    private static final String SLIPS_IN_THE_THIRD = "s5;w4,2;m0,4,0;m0,2,9;";
    /** The first wears the WAX away by which the second would slip. */
    private static final String WORN_BY_THE_FIRST = "s5;w3,1;m0,3,0;m0,3,0;";

    private static final Check check = new Check();

    public static void main(String[] args) throws Exception {
        check.sentencesOf(ComingTest.class);
        check.end();
    }

    /** One in the last YEAR that may go by. */
    private static BannisterCabinet inYear999(String text) {
        BannisterCabinet x = check.laid(text);
        for (int i = 0; i < 24; i++) {
            x.pass(40);
        }
        check.due("pass(39)", x.pass(39), 999);
        return x;
    }

    // ---- promise 13

    @Sentence("Promise 13: Who GOVERNS now.")
    static void whoIsHighestGoverns() {
        check.due("governs()", check.laid("m0,1,0;m0,2,0;m0,0,0;").governs(), 1);
        check.due("governs()", check.laid("m0,0,0;").governs(), 0);
        check.due("governs()", check.laid("m0,0,0;".repeat(6) + "m0,1,0;").governs(), 6);
    }

    @Sentence("Terms: of several the lowest number")
    static void ofSeveralTheLowestGoverns() {
        check.due("governs()", check.laid("m0,2,0;m0,3,0;m0,3,0;").governs(), 1);
        check.due("governs()", check.laid("m0,0,0;".repeat(7)).governs(), 0);
    }

    @Sentence("Promise 13: now")
    static void governsFollowsWhatIsDone() {
        BannisterCabinet x = check.laid("s5;m0,4,0;m0,2,0;");
        x.help(0);
        check.due("governs()", x.governs(), 1);
        x.undo();
        check.due("governs()", x.governs(), 0);
        x.help(0);
        x.help(1);
        check.due("governs(), both at the foot", x.governs(), 0);
    }

    // ---- promise 14

    @Sentence("Terms: BEHIND n (0 to 40) YEARS: on which STEP one is; who GOVERNS; how many YEARS he has GOVERNED.")
    static void behindTellsWhatIsAsked() {
        BannisterCabinet x = check.laid(SLIPS_IN_THE_THIRD);
        int[][] first = {{4, 0, 0}, {3, 0, 1}, {4, 0, 2}, {3, 1, 2}, {4, 0, 3}, {4, 0, 4}};
        int[][] second = {{2, 0, 0}, {3, 0, 0}, {4, 0, 0}, {4, 1, 1}, {4, 0, 1}, {4, 0, 1}};
        for (int n = 0; n < first.length; n++) {
            for (int what = 0; what < 3; what++) {
                check.due("behind(" + n + ", 0, " + what + ")", x.behind(n, 0, what), first[n][what]);
                check.due("behind(" + n + ", 1, " + what + ")", x.behind(n, 1, what), second[n][what]);
            }
        }
    }

    @Sentence("Terms: BEHIND n (0 to 40) YEARS")
    static void behind0IsNow() {
        BannisterCabinet x = check.laid("s5;w4,9;m0,4,0;m0,2,9;");
        x.pass(4);
        for (int m = 0; m < 2; m++) {
            check.due("behind(0, " + m + ", 0)", x.behind(0, m, 0), x.minister(m, 1));
            check.due("behind(0, " + m + ", 1)", x.behind(0, m, 1), x.governs());
            check.due("behind(0, " + m + ", 2)", x.behind(0, m, 2), x.minister(m, 3));
        }
    }

    @Sentence("Terms: BEHIND n (0 to 40) YEARS")
    static void behind40IsTheMost() {
        BannisterCabinet x = check.laid(SLIPS_IN_THE_THIRD);
        check.due("behind(40, 0, 0)", x.behind(40, 0, 0), 4);
        check.due("behind(40, 0, 1)", x.behind(40, 0, 1), 0);
        check.due("behind(40, 0, 2)", x.behind(40, 0, 2), 39);
        check.due("behind(40, 1, 2)", x.behind(40, 1, 2), 1);
        x.pass(3);
        check.due("behind(40, 0, 2)", x.behind(40, 0, 2), 42);
    }

    @Sentence("Terms: (beyond the last that may go by, too)")
    static void whatComesGoesBeyondYear999() {
        BannisterCabinet x = inYear999("s16;m0,0,9;m0,0,9;");
        check.due("pass(1)", x.pass(1), Check.NO);
        check.due("help(0)", x.help(0), 15);
        check.due("behind(1, 0, 0)", x.behind(1, 0, 0), 1);
        check.due("behind(40, 0, 0)", x.behind(40, 0, 0), 15);
        check.due("behind(40, 0, 1)", x.behind(40, 0, 1), 0);
        check.due("behind(40, 0, 2)", x.behind(40, 0, 2), 1025);
        check.due("behind(40, 1, 2)", x.behind(40, 1, 2), 14);
        check.due("slide(0)", x.slide(0), 1);
        check.due("top(0)", x.top(0), 15);
        check.due("topple(0)", x.topple(0), Check.NONE);
        check.due("plot(1, 9, 0)", x.plot(1, 9, 0), 0);
        check.due("hold(9, 0)", x.hold(9, 0), 0);
        check.due("likely(1, 6, 5, 0)", x.likely(1, 6, 5, 0), 1);
        check.due("century(3, 60, 0)", x.century(3, 60, 0), 0);
        check.due("century(3, 60, 1)", x.century(3, 60, 1), 1);
        x.seen(0, 1);
        check.due("waxes(5)", x.waxes(5), 1023);
        check.due("count(2)", x.count(2), 999);
    }

    @Sentence("Promise 14: BAD")
    static void behindRefusesWhatIsNotTold() {
        for (int n : Check.outside(0, 40)) {
            check.refused("behind(" + n + ", 0, 0)", Check::busy, x -> x.behind(n, 0, 0), Check.BAD);
        }
        for (int m : Check.outside(0, 1)) {
            check.refused("behind(1, " + m + ", 0)", Check::busy, x -> x.behind(1, m, 0), Check.BAD);
            check.refused("behind(1, " + m + ", 1)", Check::busy, x -> x.behind(1, m, 1), Check.BAD);
            check.refused("behind(1, " + m + ", 2)", Check::busy, x -> x.behind(1, m, 2), Check.BAD);
        }
        for (int what : Check.outside(0, 2)) {
            check.refused("behind(1, 0, " + what + ")", Check::busy, x -> x.behind(1, 0, what), Check.BAD);
        }
    }

    // ---- promise 15

    @Sentence("Terms: SLIDE: on which STEP one would be by the next YEAR.")
    static void slideIsByTheNextYear() {
        BannisterCabinet x = check.laid(WORN_BY_THE_FIRST);
        check.due("slide(0)", x.slide(0), 2);
        check.due("slide(1), worn by the first", x.slide(1), 4);
        check.due("slide(0), to the foot", check.laid("s5;w3,9;m0,3,0;").slide(0), 0);
    }

    @Sentence("Terms: (not from the TOP)")
    static void slideStaysAtTheTop() {
        check.due("slide(0)", check.laid("s3;m0,2,0;").slide(0), 2);
        check.due("slide(0)", check.laid("s3;m0,1,0;").slide(0), 2);
    }

    @Sentence("Terms: and he is not at STEP 0")
    static void slideStaysAtTheFoot() {
        check.due("slide(0)", check.laid("s3;w0,1;m0,0,0;").slide(0), 0);
        check.due("slide(0)", check.laid("s3;w0,1;m0,0,1;").slide(0), 1);
    }

    @Sentence("Promise 15: BAD")
    static void slideRefusesNoMinister() {
        for (int m : Check.outside(0, 1)) {
            check.refused("slide(" + m + ")", Check::busy, x -> x.slide(m), Check.BAD);
        }
    }

    // ---- promise 16

    @Sentence("Terms: TOP: behind how many YEARS (0 to 40) one is at the TOP first")
    static void topIsTheFirstTime() {
        BannisterCabinet x = check.laid(SLIPS_IN_THE_THIRD);
        check.due("top(1)", x.top(1), 2);
        check.due("top(0)", check.laid("s16;m0,0,0;").top(0), 15);
        // behind 1 YEAR, 3 YEARS, 5 ..: he slips in between
        check.due("top(0)", check.laid("s5;w4,9;m0,3,8;").top(0), 1);
    }

    @Sentence("Terms: (0 to 40)")
    static void topIs0ForWhoIsThere() {
        check.due("top(0)", check.laid("s3;m0,2,0;").top(0), 0);
        check.due("top(0), who slips next", check.laid("s3;w2,9;m0,2,0;").top(0), 0);
    }

    @Sentence("Terms: (0 to 40)")
    static void topIs40AtMost() {
        // 18 YEARS between 0 and 1, 16 more to have worn STEP 2, then up
        check.due("top(0)", check.laid("s7;w1,9;w2,6;m0,0,0;").top(0), 40);
        check.due("top(0), behind 41", check.laid("s8;w1,9;w2,6;m0,0,0;").top(0), Check.NONE);
    }

    @Sentence("Promise 16: NONE")
    static void topIsNoneForWhoIsStuck() {
        check.due("top(0)", check.laid("s3;w0,1;m0,0,0;").top(0), Check.NONE);
        check.refused("top(0)", () -> Check.palace("s8;w1,9;w2,6;m0,0,0;"), x -> x.top(0), Check.NONE);
    }

    @Sentence("Promise 16: BAD")
    static void topRefusesNoMinister() {
        for (int m : Check.outside(0, 1)) {
            check.refused("top(" + m + ")", Check::busy, x -> x.top(m), Check.BAD);
        }
    }

    // ---- promise 17

    @Sentence("Terms: TOPPLE for one: the least WAX more at the STEP where he is now")
    static void toppleIsTheLeast() {
        check.due("topple(0)", check.laid("s5;w3,2;m0,3,4;").topple(0), 3);
        check.due("topple(0)", check.laid("s5;w3,4;m0,3,4;").topple(0), 1);
        check.due("topple(0), on other STEPS there is enough", check.laid("s5;w2,9;w4,9;m0,3,4;").topple(0), 5);
        // the HOLDER at the TOP has 3 of GRIP more, not below it
        check.due("topple(0)", check.laid("s5;w4,7;m3,4,5;").topple(0), 2);
        check.due("topple(0)", check.laid("s5;w3,5;m3,3,5;").topple(0), 1);
    }

    @Sentence("Terms: (whatever the FUNDS; 9 at most there)")
    static void toppleAsksForNoFunds() {
        check.due("topple(0)", check.laid("s5;f0;m0,3,4;").topple(0), 5);
        check.due("topple(0)", check.laid("s5;f1;m0,3,8;").topple(0), 9);
    }

    @Sentence("Terms: 9 at most there)")
    static void topplePutsNoMoreThan9There() {
        check.due("topple(0), 9 of WAX", check.laid("s5;w3,6;m0,3,8;").topple(0), 3);
        check.due("topple(0), 10 of WAX", check.laid("s5;w3,6;m0,3,9;").topple(0), Check.NONE);
        check.due("topple(0), 9 of WAX", check.laid("s5;w4,7;m3,4,5;").topple(0), 2);
        check.due("topple(0), 10 of WAX", check.laid("s5;w4,7;m3,4,6;").topple(0), Check.NONE);
    }

    @Sentence("Terms: by which he SLIPS in the next YEAR")
    static void toppleIsByHisTurnInTheNextYear() {
        // the first wears 1 away, so the second needs 1 more, which makes the first slide once more
        BannisterCabinet x = check.laid(WORN_BY_THE_FIRST);
        check.due("topple(0)", x.topple(0), 0);
        check.due("topple(1)", x.topple(1), 1);
        // the first slides by and wears the STEP of the second; the other way round he does not
        check.due("topple(1)", check.laid("s5;w4,9;w2,1;m0,4,0;m0,2,0;").topple(1), 1);
        check.due("topple(0)", check.laid("s5;w4,9;w2,1;m0,2,0;m0,4,0;").topple(0), 0);
    }

    @Sentence("Terms: by which he SLIPS")
    static void toppleCountsASlipAtTheFoot() {
        check.due("topple(0)", check.laid("s5;m0,0,3;").topple(0), 4);
        check.due("topple(0)", check.laid("s5;w0,4;m0,0,3;").topple(0), 0);
    }

    @Sentence("Terms: (0: he does as it is)")
    static void toppleIs0ForWhoSlipsAnyway() {
        check.due("topple(0)", check.laid("s5;w3,5;m0,3,4;").topple(0), 0);
        check.due("topple(0)", check.laid("s5;w3,9;m0,3,0;").topple(0), 0);
    }

    @Sentence("Terms: none (not even by 9)")
    static void toppleIsNoneForWhoGrips9() {
        check.due("topple(0)", check.laid("s5;m0,3,9;").topple(0), Check.NONE);
        check.due("topple(0)", check.laid("s5;m0,3,8;").topple(0), 9);
        check.refused("topple(0)", () -> Check.palace("s5;w3,9;m0,3,9;"), x -> x.topple(0), Check.NONE);
    }

    @Sentence("Promise 17: BAD")
    static void toppleRefusesNoMinister() {
        for (int m : Check.outside(0, 1)) {
            check.refused("topple(" + m + ")", Check::busy, x -> x.topple(m), Check.BAD);
        }
    }

    // ---- promise 18

    private static void plotIs(String text, int m, int n, int much, int where) {
        BannisterCabinet x = check.laid(text);
        check.due("plot(" + m + ", " + n + ", 0) of " + text, x.plot(m, n, 0), much);
        check.due("plot(" + m + ", " + n + ", 1) of " + text, x.plot(m, n, 1), where);
    }

    @Sentence("Terms: PLOT for one: the least WAX more")
    static void plotIsTheLeast() {
        plotIs("s5;m0,3,2;m0,1,9;", 1, 1, 5, 3);
        plotIs("s5;w3,8;m0,3,8;m0,2,9;", 1, 1, 1, 3);
        // at STEP 2 by 6, at STEP 3 by 4: how much comes ahead of where
        plotIs("s6;w3,4;m0,2,5;m0,0,9;", 1, 2, 4, 3);
    }

    @Sentence("Terms: (at one STEP alone")
    static void plotIsAtOneStepAlone() {
        plotIs("s5;m0,3,2;m0,2,2;m0,0,9;", 2, 1, Check.NONE, Check.NONE);
        // both of them to the foot: the second has 1 less to slide on
        plotIs("s5;m0,3,2;m0,3,2;m0,0,9;", 2, 1, 8, 3);
    }

    @Sentence("Terms: whatever the FUNDS")
    static void plotAsksForNoFunds() {
        plotIs("s5;f0;m0,3,2;m0,1,9;", 1, 1, 5, 3);
        plotIs("s5;f1;m0,3,8;m0,2,9;", 1, 1, 9, 3);
    }

    @Sentence("Terms: 9 at most there) by which he GOVERNS")
    static void plotPutsNoMoreThan9There() {
        plotIs("s5;w4,7;m3,4,5;m0,4,9;", 1, 1, 2, 4);
        plotIs("s5;w4,7;m3,4,6;m0,4,9;", 1, 1, Check.NONE, Check.NONE);
        plotIs("s5;m0,3,8;m0,2,9;", 1, 1, 9, 3);
        plotIs("s5;m0,3,9;m0,2,9;", 1, 1, Check.NONE, Check.NONE);
    }

    @Sentence("Terms: by which he GOVERNS behind n (1 to 9) YEARS")
    static void plotIsBehindNYears() {
        plotIs(SLIPS_IN_THE_THIRD, 1, 3, 0, Check.NONE);
        plotIs(SLIPS_IN_THE_THIRD, 0, 4, 0, Check.NONE);
        plotIs(SLIPS_IN_THE_THIRD, 0, 1, 0, Check.NONE);
        plotIs(SLIPS_IN_THE_THIRD, 0, 9, 0, Check.NONE);
        // from STEP 8 on the first goes in the ninth YEAR
        plotIs("s16;w8,4;m0,0,4;m0,0,9;", 1, 9, 1, 8);
        plotIs("s16;w8,4;m0,0,4;m0,0,9;", 1, 8, 5, 0);
    }

    @Sentence("Terms: behind n (1 to 9) YEARS")
    static void plotLooksAtTheLastYearAlone() {
        // in the first YEAR the second governs, in the second the first again
        plotIs("s5;w4,1;m0,4,0;m0,4,9;", 0, 2, 0, Check.NONE);
        plotIs("s5;w4,1;m0,4,0;m0,4,9;", 1, 1, 0, Check.NONE);
    }

    @Sentence("Terms: (0: he does as it is)")
    static void plotIs0ForWhoGovernsAnyway() {
        plotIs("s5;m0,3,2;m0,1,9;", 0, 1, 0, Check.NONE);
        plotIs("s5;m0,3,2;m0,1,9;", 0, 9, 0, Check.NONE);
    }

    @Sentence("Promise 18: where (1; NONE: 0 are needed)")
    static void plotIsNowhereIf0AreNeeded() {
        check.refused("plot(0, 1, 1)", () -> Check.palace("s5;m0,3,2;m0,1,9;"), x -> x.plot(0, 1, 1), Check.NONE);
    }

    @Sentence("Terms: where, of several the lowest")
    static void plotIsAtTheLowestOfSeveral() {
        // at STEP 3 now or at STEP 4 later, both by 5
        plotIs("s5;m0,3,2;m0,1,9;", 1, 2, 5, 3);
        // at STEP 3 or 4, both make the slide one longer
        plotIs("s6;w4,1;w3,1;m0,4,0;m0,2,9;", 1, 1, 1, 3);
    }

    @Sentence("Terms: where, of several the lowest")
    static void plotMayBeAtTheFoot() {
        plotIs("s5;m0,0,2;m0,0,9;", 1, 1, 3, 0);
    }

    @Sentence("Promise 18: NONE")
    static void plotIsNoneIfNoWaxHelps() {
        plotIs("s3;m0,2,9;m0,0,9;", 1, 9, Check.NONE, Check.NONE);
        check.refused("plot(1, 9, 0)", () -> Check.palace("s3;m0,2,9;m0,0,9;"), x -> x.plot(1, 9, 0), Check.NONE);
        check.refused("plot(1, 9, 1)", () -> Check.palace("s3;m0,2,9;m0,0,9;"), x -> x.plot(1, 9, 1), Check.NONE);
    }

    @Sentence("Promise 18: BAD")
    static void plotRefusesWhatIsNotTold() {
        for (int m : Check.outside(0, 1)) {
            check.refused("plot(" + m + ", 1, 0)", Check::busy, x -> x.plot(m, 1, 0), Check.BAD);
        }
        for (int n : Check.outside(1, 9)) {
            check.refused("plot(0, " + n + ", 0)", Check::busy, x -> x.plot(0, n, 0), Check.BAD);
        }
        for (int what : Check.outside(0, 1)) {
            check.refused("plot(0, 1, " + what + ")", Check::busy, x -> x.plot(0, 1, what), Check.BAD);
        }
    }

    @Sentence("Terms: Of several the first in this order")
    static void plotIsBadAheadOfNone() {
        check.refused("plot(1, 9, 2)", () -> Check.palace("s3;m0,2,9;m0,0,9;"), x -> x.plot(1, 9, 2), Check.BAD);
        check.refused("plot(0, 9, 2)", () -> Check.palace("s3;m0,2,9;m0,0,9;"), x -> x.plot(0, 9, 2), Check.BAD);
        check.refused("plot(1, 10, 1)", () -> Check.palace("s3;m0,2,9;m0,0,9;"), x -> x.plot(1, 10, 1), Check.BAD);
    }

    // ---- promise 19

    private static void holdIs(String text, int n, int often, int where) {
        BannisterCabinet x = check.laid(text);
        check.due("hold(" + n + ", 0) of " + text, x.hold(n, 0), often);
        check.due("hold(" + n + ", 1) of " + text, x.hold(n, 1), where);
    }

    @Sentence("Terms: HOLD for n (1 to 9)")
    static void holdIsFor1To9Years() {
        holdIs("s5;w4,5;m0,4,2;m0,3,9;", 1, 2, 4);
        holdIs("s5;w4,5;m0,4,2;m0,3,9;", 9, 2, 4);
        // WAX at STEP 9 makes him slip in the ninth YEAR
        holdIs("s16;w9,1;m0,1,0;m0,1,9;", 8, 0, Check.NONE);
        holdIs("s16;w9,1;m0,1,0;m0,1,9;", 9, 1, 9);
    }

    @Sentence("Terms: how often (0 to 5)")
    static void holdIs5TimesAtMost() {
        holdIs("s5;w3,9;m0,3,0;m0,2,9;", 1, 5, 3);
        holdIs("s5;w3,8;m0,3,0;m0,2,9;", 1, 4, 3);
        holdIs("s5;w3,9;m0,3,1;m0,2,9;", 1, 4, 3);
    }

    @Sentence("Terms: on one STEP now")
    static void holdIsOnOneStep() {
        holdIs("s5;w3,9;w4,9;m0,3,0;m0,2,9;", 1, 5, 3);
        holdIs("s5;w3,9;w4,9;m0,3,0;m0,2,9;", 2, Check.NONE, Check.NONE);
        holdIs("s5;w3,2;w4,2;m0,3,0;m0,2,9;", 2, Check.NONE, Check.NONE);
        holdIs("s5;w3,2;m0,3,0;m0,2,9;", 2, 1, 3);
    }

    @Sentence("Terms: whatever the FUNDS")
    static void holdAsksForNoFunds() {
        holdIs("s5;f0;w4,5;m0,4,2;m0,3,9;", 1, 2, 4);
        holdIs("s5;f9;w3,9;m0,3,0;m0,2,9;", 1, 5, 3);
    }

    @Sentence("Terms: (2 less each time, 0 at least)")
    static void holdLeaves0AtLeast() {
        holdIs("s5;w3,1;m0,3,0;m0,2,9;", 1, 1, 3);
        // were there less than none at STEP 2, he would stop there
        holdIs("s4;w3,3;w2,1;m0,3,0;m0,1,9;", 1, 1, 3);
    }

    @Sentence("Terms: the fewest, so that who GOVERNS now does so")
    static void holdIsTheFewest() {
        // twice on STEP 2, or once on STEP 3: how often comes ahead of where
        holdIs("s4;w3,2;w2,3;m0,3,0;m0,1,9;", 1, 1, 3);
    }

    @Sentence("Terms: who GOVERNS now does so behind each of the next n YEARS")
    static void holdIsForEachYear() {
        holdIs(SLIPS_IN_THE_THIRD, 2, 0, Check.NONE);
        holdIs(SLIPS_IN_THE_THIRD, 3, 1, 4);
        // behind the fourth he governs again, but not behind each
        holdIs(SLIPS_IN_THE_THIRD, 4, 1, 4);
    }

    @Sentence("Terms: who GOVERNS now does so")
    static void holdIsForWhoGovernsNow() {
        // the first overtakes the second
        holdIs("s5;m0,3,9;m0,4,9;", 1, Check.NONE, Check.NONE);
        holdIs("s5;m0,2,9;m0,4,9;", 1, 0, Check.NONE);
        holdIs("s5;m0,2,9;m0,4,9;", 2, Check.NONE, Check.NONE);
    }

    @Sentence("Promise 19: where (1; NONE: 0 are needed)")
    static void holdIsNowhereIf0AreNeeded() {
        holdIs("s5;m0,0,0;", 9, 0, Check.NONE);
        check.refused("hold(9, 1)", () -> Check.palace("s5;m0,0,0;"), x -> x.hold(9, 1), Check.NONE);
    }

    @Sentence("Terms: where, of several the lowest")
    static void holdIsOnTheLowestOfSeveral() {
        // SAND on STEP 5 would do as well
        holdIs("s7;w4,4;w5,2;m0,5,0;m0,2,9;", 1, 1, 4);
    }

    @Sentence("Terms: where, of several the lowest")
    static void holdMayBeAtTheFoot() {
        holdIs("s5;w0,5;m0,0,0;m0,0,9;", 1, 3, 0);
    }

    @Sentence("Promise 19: NONE")
    static void holdIsNoneIfNoSandHelps() {
        check.refused("hold(1, 0)", () -> Check.palace("s5;m0,3,9;m0,4,9;"), x -> x.hold(1, 0), Check.NONE);
        check.refused("hold(1, 1)", () -> Check.palace("s5;m0,3,9;m0,4,9;"), x -> x.hold(1, 1), Check.NONE);
    }

    @Sentence("Promise 19: BAD")
    static void holdRefusesWhatIsNotTold() {
        for (int n : Check.outside(1, 9)) {
            check.refused("hold(" + n + ", 0)", Check::busy, x -> x.hold(n, 0), Check.BAD);
        }
        for (int what : Check.outside(0, 1)) {
            check.refused("hold(1, " + what + ")", Check::busy, x -> x.hold(1, what), Check.BAD);
        }
    }

    @Sentence("Terms: Of several the first in this order")
    static void holdIsBadAheadOfNone() {
        check.refused("hold(1, 2)", () -> Check.palace("s5;m0,3,9;m0,4,9;"), x -> x.hold(1, 2), Check.BAD);
        check.refused("hold(10, 1)", () -> Check.palace("s5;m0,3,9;m0,4,9;"), x -> x.hold(10, 1), Check.BAD);
    }

    // ---- promise 20

    private static void cabinetIs(String text, int many, int which) {
        BannisterCabinet x = check.laid(text);
        check.due("cabinet(0) of " + text, x.cabinet(0), many);
        check.due("cabinet(1) of " + text, x.cabinet(1), which);
    }

    @Sentence("Terms: CABINET: of sets of MINISTERS whose STEPS (each 1 more) together")
    static void eachStepCounts1More() {
        // 1 and 2 of 3, not 0 and 1 of 1; 1, 3 and 4 of 8
        cabinetIs("m0,0,0;m0,1,0;", 1, 2);
        cabinetIs("m0,0,0;m0,2,0;m0,3,0;", 2, 5);
        cabinetIs("m0,3,0;m0,0,0;m0,0,0;", 1, 1);
        cabinetIs("m0,2,0;m0,0,0;m0,0,0;m0,0,0;", 2, 3);
    }

    @Sentence("Terms: more than half of all MINISTERS'")
    static void justHalfIsNotEnough() {
        cabinetIs("m0,4,0;m0,4,0;", 2, 3);
        cabinetIs("m0,5,0;m0,2,0;m0,2,0;", 2, 3);
        cabinetIs("m0,6,0;m0,2,0;m0,2,0;", 1, 1);
        cabinetIs("m0,4,0;m0,4,0;m0,4,0;m0,4,0;", 3, 7);
    }

    @Sentence("Terms: that of fewest")
    static void theFewestMakeTheCabinet() {
        cabinetIs("m0,0,0;m0,3,0;m0,3,0;m0,9,0;", 1, 8);
        cabinetIs("m0,9,0;m0,3,0;m0,3,0;m0,0,0;", 1, 1);
        cabinetIs("m0,2,0;m0,2,0;m0,2,0;m0,9,0;m0,9,0;", 2, 24);
    }

    @Sentence("Terms: of several the lowest as bits")
    static void ofSeveralTheLowestAsBits() {
        cabinetIs("m0,1,0;m0,4,0;m0,2,0;", 2, 3);
        cabinetIs("m0,4,0;m0,4,0;m0,4,0;", 2, 3);
        cabinetIs("m0,0,0;".repeat(7), 4, 15);
    }

    @Sentence("Terms: how many; which.")
    static void oneAloneMakesTheCabinet() {
        cabinetIs("m0,0,0;", 1, 1);
        cabinetIs("m0,9,0;", 1, 1);
    }

    @Sentence("Promise 20: BAD")
    static void cabinetRefusesWhatIsNotTold() {
        for (int what : Check.outside(0, 1)) {
            check.refused("cabinet(" + what + ")", Check::busy, x -> x.cabinet(what), Check.BAD);
        }
    }

    // ---- all of them

    @Sentence("Terms: From now on, nothing else being done")
    static void whatIsAskedChangesNothing() {
        BannisterCabinet asked = Check.busy();
        asked.governs();
        asked.behind(40, 0, 0);
        asked.slide(0);
        asked.top(0);
        asked.topple(0);
        asked.plot(1, 9, 0);
        asked.hold(9, 0);
        asked.cabinet(0);
        check.unchanged("what was asked", asked, Check.busy());
    }
}
