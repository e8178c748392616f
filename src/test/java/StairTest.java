/** Promises 6 to 8: MINISTERS and STEPS as they stand, and how a YEAR goes by. */
public final class StairTest {
    /** The first wears the WAX away by which the second would slip. */
    private static final String WORN_BY_THE_FIRST = "s5;w3,1;m0,3,0;m0,3,0;";

    private static final Check check = new Check();

    public static void main(String[] args) throws Exception {
        check.sentencesOf(StairTest.class);
        check.end();
    }

    // ---- promises 6 and 7

    @Sentence("Promise 6: Of a MINISTER: KIND (what = 0), STEP (1), GRIP (2), YEARS he has GOVERNED (3)")
    static void ministerTellsWhatIsAsked() {
        BannisterCabinet x = check.laid("s5;m3,4,2;m1,0,9;");
        x.pass(3);
        int[] first = {3, 4, 2, 3};
        int[] second = {1, 3, 9, 0};
        for (int what = 0; what < first.length; what++) {
            check.due("minister(0, " + what + ")", x.minister(0, what), first[what]);
            check.due("minister(1, " + what + ")", x.minister(1, what), second[what]);
        }
    }

    @Sentence("Promise 6: 1 if he would SLIP in the next YEAR, were it his turn now (4)")
    static void ministerTellsWhetherHeWouldSlip() {
        BannisterCabinet x = check.laid("s5;w4,6;w2,6;w0,1;m3,4,3;m3,4,2;m3,2,5;m3,2,6;m0,0,0;m0,0,1;m1,4,9;");
        int[] slips = {0, 1, 1, 0, 1, 0, 0};
        for (int m = 0; m < slips.length; m++) {
            check.due("minister(" + m + ", 4)", x.minister(m, 4), slips[m]);
        }
    }

    @Sentence("Promise 6: were it his turn now")
    static void ministerLooksAtHisTurnNow() {
        BannisterCabinet x = check.laid(WORN_BY_THE_FIRST);
        check.due("minister(1, 4)", x.minister(1, 4), 1);
        check.due("slide(1)", x.slide(1), 4);
    }

    @Sentence("Promise 6: BAD")
    static void ministerRefusesWhatIsNotTold() {
        for (int m : Check.outside(0, 1)) {
            check.refused("minister(" + m + ", 0)", Check::busy, x -> x.minister(m, 0), Check.BAD);
        }
        for (int what : Check.outside(0, 4)) {
            check.refused("minister(0, " + what + ")", Check::busy, x -> x.minister(0, what), Check.BAD);
        }
    }

    @Sentence("Terms: (STEPS, MINISTERS: such as there are)")
    static void ministersAreSuchAsThereAre() {
        BannisterCabinet x = check.laid("m0,0,0;".repeat(7));
        check.due("minister(6, 1)", x.minister(6, 1), 0);
        check.due("minister(7, 1)", x.minister(7, 1), Check.BAD);
        x.wipe();
        Check.write(x, "m0,0,0;");
        check.due("lay()", x.lay(), 1);
        check.due("minister(0, 1)", x.minister(0, 1), 0);
        check.due("minister(1, 1)", x.minister(1, 1), Check.BAD);
    }

    @Sentence("Promise 7: Of a STEP: WAX (what = 0), 1 if there is a KNOB (1), a TURN (2),"
        + " how many MINISTERS are on it (3)")
    static void stepTellsWhatIsAsked() {
        BannisterCabinet x = check.laid("s16;w15,9;w0,3;k15;k0;t15;t7;m0,15,9;m1,15,9;m0,0,9;");
        int[][] steps = {{0, 3, 1, 0, 1}, {1, 0, 0, 0, 0}, {7, 0, 0, 1, 0}, {15, 9, 1, 1, 2}};
        for (int[] step : steps) {
            for (int what = 0; what < 4; what++) {
                check.due("step(" + step[0] + ", " + what + ")", x.step(step[0], what), step[what + 1]);
            }
        }
        check.due("step(5, 3)", check.laid("m0,5,0;".repeat(7)).step(5, 3), 7);
    }

    @Sentence("Promise 7: BAD")
    static void stepRefusesWhatIsNotTold() {
        for (int s : Check.outside(0, 3)) {
            check.refused("step(" + s + ", 0)", Check::busy, x -> x.step(s, 0), Check.BAD);
        }
        for (int what : Check.outside(0, 3)) {
            check.refused("step(0, " + what + ")", Check::busy, x -> x.step(0, what), Check.BAD);
        }
    }

    @Sentence("Terms: (STEPS, MINISTERS: such as there are)")
    static void stepsAreSuchAsThereAre() {
        BannisterCabinet x = check.laid("s16;m0,0,0;");
        check.due("step(15, 0)", x.step(15, 0), 0);
        check.due("step(16, 0)", x.step(16, 0), Check.BAD);
        x.wipe();
        Check.write(x, "s3;m0,0,0;");
        check.due("lay()", x.lay(), 1);
        check.due("step(2, 0)", x.step(2, 0), 0);
        check.due("step(3, 0)", x.step(3, 0), Check.BAD);
    }

    // ---- a YEAR

    /** The first MINISTER's STEP behind a YEAR, and the WAX of all STEPS then. */
    private static void year(String text, int place, int wax) {
        BannisterCabinet x = check.laid(text);
        check.due("pass(1) of " + text, x.pass(1), 1);
        check.due("minister(0, 1) of " + text, x.minister(0, 1), place);
        check.due("count(4) of " + text, x.count(4), wax);
    }

    @Sentence("Terms: In a YEAR each MINISTER, 0 first")
    static void ministersTakeTheirTurnsFrom0On() {
        BannisterCabinet x = check.laid(WORN_BY_THE_FIRST);
        x.pass(1);
        check.due("minister(0, 1)", x.minister(0, 1), 2);
        check.due("minister(1, 1)", x.minister(1, 1), 4);
        check.due("step(3, 0)", x.step(3, 0), 0);
        // the last of 7 has his turn, and the first six have worn 6 of 9 away
        x = check.laid("s5;w3,9;m0,3,0;m0,3,0;m0,3,0;m0,3,0;m0,3,0;m0,3,0;m0,3,2;");
        x.pass(1);
        check.due("step(3, 0)", x.step(3, 0), 2);
        check.due("minister(6, 1)", x.minister(6, 1), 2);
    }

    @Sentence("Terms: SLIPS, if there is more WAX at his STEP than his GRIP")
    static void slipsByMoreWaxThanGrip() {
        year("s5;w3,4;m0,3,4;", 4, 4);
        year("s5;w3,4;m0,3,3;", 2, 3);
        year("s5;w3,4;m0,3,5;", 4, 4);
        year("s5;m0,3,0;", 4, 0);
        year("s5;w3,1;m0,3,0;", 2, 0);
        year("s5;w3,9;m0,3,9;", 4, 9);
        year("s5;w3,9;m0,3,8;", 2, 8);
    }

    @Sentence("Terms: (that of a HOLDER at the TOP is 3 more)")
    static void aHolderGripsMoreAtTheTop() {
        year("s3;w2,9;m3,2,6;", 2, 9);
        year("s3;w2,9;m3,2,5;", 1, 8);
        year("s4;w2,9;m3,2,8;", 1, 8);
        year("s4;w2,9;m3,2,9;", 3, 9);
        year("s3;w2,4;m0,2,3;", 1, 3);
        year("s3;w2,4;m1,2,3;", 1, 3);
        year("s3;w2,4;m2,2,3;", 1, 3);
        year("s3;w2,4;m3,2,3;", 2, 4);
        // what he has more of GRIP is less of SPEED: 2, and 0 at STEP 4
        year("s6;w5,9;m3,5,4;", 4, 8);
        year("s6;w5,9;m3,5,3;", 3, 8);
    }

    @Sentence("Terms: else he goes one STEP up (not from the TOP)")
    static void goesUpNotFromTheTop() {
        year("s3;m0,0,0;", 1, 0);
        year("s3;m0,1,0;", 2, 0);
        year("s3;m0,2,0;", 2, 0);
        year("s16;m0,14,0;", 15, 0);
        year("s16;m0,15,0;", 15, 0);
        year("s6;w5,9;m0,5,9;", 5, 9);
        // going up nothing stops him and no WAX goes
        year("s6;w3,2;w4,9;k4;t4;m2,3,2;", 4, 11);
    }

    @Sentence("Terms: Who SLIPS has SPEED, by how much there is more WAX.")
    static void speedIsHowMuchMoreWaxThereIs() {
        // SPEED 1 to 9, each STEP takes 2 of it
        int[] places = {8, 8, 7, 7, 6, 6, 5, 5, 4};
        for (int speed = 1; speed <= 9; speed++) {
            year("s10;w9," + speed + ";m0,9,0;", places[speed - 1], speed - 1);
            year("s10;w9,9;m0,9," + (9 - speed) + ";", places[speed - 1], 8);
        }
    }

    @Sentence("Terms: As long as that is above 0")
    static void slidesWhileSpeedIsAbove0() {
        // 2, then 0
        year("s8;w6,2;m0,6,0;", 5, 1);
        // 3, then 1, then -1
        year("s8;w6,3;m0,6,0;", 4, 2);
        // 1, then 0 by 1 of WAX
        year("s8;w6,1;w5,1;m0,6,0;", 5, 1);
        // 1, then 1 by 2 of WAX, then -1
        year("s8;w6,1;w5,2;m0,6,0;", 4, 1);
    }

    @Sentence("Terms: and he is not at STEP 0")
    static void slidesToTheFootAtMost() {
        year("s6;w4,9;m0,4,0;", 0, 8);
        year("s3;w2,9;w1,9;w0,9;m0,2,0;", 0, 25);
        year("s3;w1,9;m0,1,0;", 0, 8);
    }

    @Sentence("Terms: and he is not at STEP 0")
    static void staysAtTheFootWhenHeSlipsThere() {
        year("s8;w0,5;m0,0,4;", 0, 5);
        year("s8;w0,9;k0;t0;m2,0,0;", 0, 9);
        year("s8;w0,5;m0,0,5;", 1, 5);
    }

    @Sentence("Terms: (of the STEP that he leaves 1 of WAX is gone, if there is any)")
    static void wearsTheStepsThatHeLeaves() {
        // 2, 5, 3, 1, -1: STEPS 6 and 5 had some, 4 and 3 none, 2 is not left
        BannisterCabinet x = check.laid("s8;w6,2;w5,5;w2,0;m0,6,0;");
        x.pass(1);
        int[] wax = {0, 0, 0, 0, 0, 4, 1, 0};
        for (int s = 0; s < wax.length; s++) {
            check.due("step(" + s + ", 0)", x.step(s, 0), wax[s]);
        }
        check.due("minister(0, 1)", x.minister(0, 1), 2);
        // the STEP that he comes to keeps its WAX
        year("s8;w6,1;w5,1;m0,6,0;", 5, 1);
    }

    @Sentence("Terms: if there is any)")
    static void noStepHasLessThanNoWax() {
        BannisterCabinet x = check.laid("s6;w5,9;m0,5,0;m0,0,9;");
        x.pass(1);
        for (int s = 0; s < 5; s++) {
            check.due("step(" + s + ", 0)", x.step(s, 0), 0);
        }
    }

    @Sentence("Terms: is there a KNOB")
    static void aKnobStopsEachKind() {
        for (int kind = 0; kind < 4; kind++) {
            year("s6;w4,9;k3;m" + kind + ",4,0;", 3, 8);
            // whatever WAX there is
            year("s6;w4,9;w3,9;k3;m" + kind + ",4,0;", 3, 17);
            // not where he begins
            year("s6;w4,2;k4;m" + kind + ",4,0;", 3, 1);
        }
        year("s6;w4,9;k2;m0,4,0;", 2, 8);
        year("s6;w4,9;k4;m0,4,0;", 0, 8);
        // the first one that he comes to
        year("s6;w4,9;k2;k1;m0,4,0;", 2, 8);
    }

    @Sentence("Terms: (a TURN as well, for a GAITERED one)")
    static void aTurnStopsAGaiteredOneAlone() {
        year("s6;w4,9;t2;m0,4,0;", 0, 8);
        year("s6;w4,9;t2;m1,4,0;", 1, 8);
        year("s6;w4,9;t2;m2,4,0;", 2, 8);
        year("s6;w4,9;t2;m3,4,0;", 0, 8);
        year("s6;w4,9;w2,9;t2;m2,4,0;", 2, 17);
        year("s6;w4,9;t4;m2,4,0;", 0, 8);
    }

    @Sentence("Terms: else his SPEED is more by the WAX at that STEP, less by 2 (by 4 for a VELVET one)")
    static void speedChangesWithEachStep() {
        // 9, 7, 5, 3, 1, -1; by a VELVET one 9, 5, 1, -3
        year("s8;w6,9;m0,6,0;", 1, 8);
        year("s8;w6,9;m1,6,0;", 3, 8);
        year("s8;w6,9;m2,6,0;", 1, 8);
        year("s8;w6,9;m3,6,0;", 1, 8);
        year("s8;w6,8;m1,6,0;", 4, 7);
        // by the WAX of a STEP on the way: 1, 4, 2, 0; by a VELVET one 1, 2, -2
        year("s8;w6,1;w5,5;m0,6,0;", 3, 4);
        year("s8;w6,1;w5,5;m1,6,0;", 4, 4);
    }

    @Sentence("Terms: Who is on the highest STEP that anybody is on GOVERNS, of several the lowest number.")
    static void theLowestOfTheHighestGoverns() {
        check.due("governs()", check.laid("s5;m0,2,0;m0,3,0;m0,3,0;").governs(), 1);
        check.due("governs()", check.laid("s5;m0,0,0;m0,0,0;").governs(), 0);
        check.due("governs()", check.laid("s5;m0,1,0;m0,2,0;m3,4,0;").governs(), 2);
        check.due("governs()", check.laid("m0,3,0;".repeat(6) + "m0,4,0;").governs(), 6);
        check.due("governs()", check.laid("m0,3,0;".repeat(7)).governs(), 0);
    }

    @Sentence("Terms: Behind the YEAR who GOVERNS has done so a YEAR more")
    static void whoGovernsBehindTheYearHasGoverned() {
        BannisterCabinet x = check.laid("s5;m0,0,9;m0,2,9;m0,2,9;");
        int[][] reigns = {{0, 1, 0}, {0, 2, 0}, {0, 3, 0}, {1, 3, 0}};
        for (int[] reign : reigns) {
            x.pass(1);
            for (int m = 0; m < 3; m++) {
                check.due("minister(" + m + ", 3) in YEAR " + x.count(2), x.minister(m, 3), reign[m]);
            }
        }
    }

    @Sentence("Terms: the FUNDS are 3 more (99 at most)")
    static void fundsAre3MoreAnd99AtMost() {
        int[][] funds = {{0, 3}, {95, 98}, {96, 99}, {97, 99}, {98, 99}, {99, 99}};
        for (int[] before : funds) {
            BannisterCabinet x = check.laid("f" + before[0] + ";m0,0,9;");
            x.pass(1);
            check.due("count(3) behind " + before[0], x.count(3), before[1]);
        }
        BannisterCabinet x = check.laid("f0;m0,0,9;");
        x.pass(40);
        check.due("count(3) behind 40 YEARS", x.count(3), 99);
    }

    @Sentence("Terms: the YEAR is one more")
    static void theYearIsOneMore() {
        BannisterCabinet x = check.laid("m0,0,0;");
        check.due("count(2)", x.count(2), 0);
        x.pass(1);
        check.due("count(2)", x.count(2), 1);
        x.pass(5);
        check.due("count(2)", x.count(2), 6);
    }

    // ---- promise 8

    @Sentence("Promise 8: n (1 to 40) YEARS go by: which it is.")
    static void passLets1To40YearsGoBy() {
        for (int n : new int[] {1, 2, 39, 40}) {
            BannisterCabinet x = check.laid("s16;m0,0,0;");
            check.due("pass(" + n + ")", x.pass(n), n);
            check.due("minister(0, 1)", x.minister(0, 1), Math.min(n, 15));
            check.due("minister(0, 3)", x.minister(0, 3), n);
            check.due("count(2)", x.count(2), n);
        }
    }

    @Sentence("Promise 8: BAD")
    static void passRefusesFewerThan1AndMoreThan40() {
        for (int n : Check.outside(1, 40)) {
            check.refused("pass(" + n + ")", Check::busy, x -> x.pass(n), Check.BAD);
        }
    }

    private static BannisterCabinet inYear(int year) {
        BannisterCabinet x = Check.palace("s3;w2,1;m0,0,0;");
        x.wipe();
        for (int left = year; left > 0; left -= 40) {
            x.pass(Math.min(40, left));
        }
        return x;
    }

    @Sentence("Promise 8: NO: it would be above 999.")
    static void passGoesTo999() {
        check.due("pass(40) to 999", inYear(959).pass(40), 999);
        check.due("pass(39) to 999", inYear(960).pass(39), 999);
        check.due("pass(1) to 999", inYear(998).pass(1), 999);
        check.due("pass(40) to 998", inYear(958).pass(40), 998);
        check.due("minister(0, 3)", inYear(999).minister(0, 3), 999);
    }

    @Sentence("Promise 8: NO: it would be above 999.")
    static void passRefusesToGoBeyond999() {
        check.refused("pass(1)", () -> inYear(999), x -> x.pass(1), Check.NO);
        check.refused("pass(40)", () -> inYear(999), x -> x.pass(40), Check.NO);
        check.refused("pass(2)", () -> inYear(998), x -> x.pass(2), Check.NO);
        check.refused("pass(40)", () -> inYear(960), x -> x.pass(40), Check.NO);
    }

    @Sentence("Terms: Of several the first in this order")
    static void passIsBadAheadOfNo() {
        check.refused("pass(41)", () -> inYear(999), x -> x.pass(41), Check.BAD);
        check.refused("pass(0)", () -> inYear(999), x -> x.pass(0), Check.BAD);
        check.refused("pass(2147483647)", () -> inYear(999), x -> x.pass(Integer.MAX_VALUE), Check.BAD);
    }
}
