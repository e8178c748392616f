/** Promises 21 to 24: what is SEEN, and which WAX and which GRIPS go with it. */
public final class SeenTest {
    private static final int ALL = 1023;

    private static final Check check = new Check();

    public static void main(String[] args) throws Exception {
        check.sentencesOf(SeenTest.class);
        check.end();
    }

    private static BannisterCabinet sixSeen() {
        BannisterCabinet x = Check.palace("s5;m0,3,4;m0,0,9;");
        for (int i = 0; i < 6; i++) {
            x.seen(0, 4);
        }
        return x;
    }

    // ---- promises 21 and 22

    @Sentence("Promise 21: SEEN: how many.")
    static void seenAnswersHowMany() {
        BannisterCabinet x = check.laid("s5;m0,3,4;m0,0,9;");
        check.due("seen(0, 4)", x.seen(0, 4), 1);
        check.due("seen(1, 1)", x.seen(1, 1), 2);
        check.due("seen(0, 2), which can't be as well", x.seen(0, 2), 3);
        check.due("count(5)", x.count(5), 3);
    }

    @Sentence("Terms: SEEN (6 at most) is that by the next YEAR one is on a STEP")
    static void seenOnceMoreCountsOnceMore() {
        BannisterCabinet x = check.laid("s5;w3,1;m0,3,4;m0,0,9;");
        check.due("seen(0, 4)", x.seen(0, 4), 1);
        check.due("seen(0, 4) once more", x.seen(0, 4), 2);
        check.due("waxes(3)", x.waxes(3), 31);
    }

    @Sentence("Terms: SEEN (6 at most)")
    static void sixAreSeenAtMost() {
        BannisterCabinet x = check.laid("s5;m0,3,4;m0,0,9;");
        for (int many = 1; many <= 6; many++) {
            check.due("seen(0, 4)", x.seen(0, 4), many);
        }
        check.due("seen(0, 4), the seventh", x.seen(0, 4), Check.FULL);
        check.due("count(5)", x.count(5), 6);
    }

    @Sentence("Promise 21: FULL")
    static void seenIsFullBehindSix() {
        check.refused("seen(0, 4), the seventh", SeenTest::sixSeen, x -> x.seen(0, 4), Check.FULL);
        check.refused("seen(0, 1), the seventh", SeenTest::sixSeen, x -> x.seen(0, 1), Check.FULL);
    }

    @Sentence("Promise 21: BAD")
    static void seenRefusesWhatIsNotTold() {
        for (int m : Check.outside(0, 1)) {
            check.refused("seen(" + m + ", 0)", Check::busy, x -> x.seen(m, 0), Check.BAD);
        }
        for (int s : Check.outside(0, 3)) {
            check.refused("seen(0, " + s + ")", Check::busy, x -> x.seen(0, s), Check.BAD);
        }
    }

    @Sentence("Terms: (STEPS, MINISTERS: such as there are)")
    static void theLastMinisterIsSeenAtTheTop() {
        BannisterCabinet x = check.laid("s16;" + "m0,14,0;".repeat(7));
        check.due("seen(6, 15)", x.seen(6, 15), 1);
        check.due("seen(0, 0)", x.seen(0, 0), 2);
        check.due("seen(7, 15)", x.seen(7, 15), Check.BAD);
        check.due("seen(6, 16)", x.seen(6, 16), Check.BAD);
    }

    @Sentence("Terms: Of several the first in this order")
    static void seenIsBadAheadOfFull() {
        check.refused("seen(2, 0)", SeenTest::sixSeen, x -> x.seen(2, 0), Check.BAD);
        check.refused("seen(0, 5)", SeenTest::sixSeen, x -> x.seen(0, 5), Check.BAD);
        check.refused("seen(-1, -1)", SeenTest::sixSeen, x -> x.seen(-1, -1), Check.BAD);
    }

    @Sentence("Promise 22: Nothing is SEEN: how many were.")
    static void forgetAnswersHowManyWere() {
        BannisterCabinet x = sixSeen();
        check.due("forget() of six", x.forget(), 6);
        check.due("count(5)", x.count(5), 0);
        check.due("waxes(3)", x.waxes(3), ALL);
        check.due("seen(1, 0), there being room again", x.seen(1, 0), 1);
        check.due("waxes(3)", x.waxes(3), 0);
        check.due("forget() of one", x.forget(), 1);
    }

    @Sentence("Promise 22: Nothing is SEEN")
    static void forgetsNothing() {
        BannisterCabinet x = sixSeen();
        x.forget();
        check.due("forget() once more", x.forget(), 0);
        check.due("forget() by a new one", new BannisterCabinet().forget(), 0);
        BannisterCabinet asked = Check.busy();
        check.due("forget()", asked.forget(), 2);
        check.due("seen(0, 3)", asked.seen(0, 3), 1);
        check.due("seen(1, 3)", asked.seen(1, 3), 2);
        check.unchanged("forget() and the same SEEN", asked, Check.busy());
    }

    // ---- promise 23

    @Sentence("Terms: WAXES of a STEP: WAX there (bits of 0 to 9)")
    static void waxesAreBitsOf0To9() {
        BannisterCabinet x = check.laid("s5;w3,1;m0,3,0;");
        x.seen(0, 4);
        check.due("waxes(3), 0 alone", x.waxes(3), 1);
        x = check.laid("s5;m0,3,4;");
        x.seen(0, 0);
        check.due("waxes(3), 9 alone", x.waxes(3), 512);
        x = check.laid("s5;w3,1;m0,3,4;m0,0,9;");
        x.seen(0, 4);
        check.due("waxes(3), 0 to 4", x.waxes(3), 31);
        x.forget();
        x.seen(0, 2);
        // with SPEED 1 and 2 he is stopped at STEP 2
        check.due("waxes(3), 5 and 6", x.waxes(3), 32 + 64);
    }

    @Sentence("Terms: in place of what there is")
    static void waxesAreInPlaceOfWhatThereIs() {
        for (int wax = 0; wax <= 9; wax++) {
            BannisterCabinet x = check.laid("s5;w3," + wax + ";m0,3,4;");
            x.seen(0, 4);
            check.due("waxes(3) where there is " + wax, x.waxes(3), 31);
            check.due("step(3, 0)", x.step(3, 0), wax);
        }
    }

    @Sentence("Terms: by which all that is SEEN would be so")
    static void waxesGoWithAllThatIsSeen() {
        BannisterCabinet x = check.laid("s5;w3,1;m0,3,4;m0,3,7;m0,0,9;");
        x.seen(1, 4);
        check.due("waxes(3), the first wears 1 away", x.waxes(3), 511);
        x.seen(0, 4);
        check.due("waxes(3)", x.waxes(3), 31);
        x.seen(2, 1);
        check.due("waxes(3)", x.waxes(3), 31);
        x.seen(2, 2);
        check.due("waxes(3), one can't be on two STEPS", x.waxes(3), 0);
    }

    @Sentence("Terms: by which all that is SEEN would be so")
    static void allWaxesGoIfNothingIsSeen() {
        BannisterCabinet x = check.laid("s5;w3,9;m0,3,4;");
        for (int s = 0; s < 5; s++) {
            check.due("waxes(" + s + ")", x.waxes(s), ALL);
        }
    }

    @Sentence("Terms: WAXES of a STEP: WAX there")
    static void waxesOfAStepThatDoesNotMatter() {
        BannisterCabinet x = check.laid("s5;w3,5;m0,3,4;");
        x.seen(0, 4);
        check.due("waxes(4), he slips all the same", x.waxes(4), 0);
        x.forget();
        x.seen(0, 2);
        check.due("waxes(4), he slips all the same", x.waxes(4), ALL);
        check.due("waxes(2), by 2 he comes to STEP 1", x.waxes(2), 3);
    }

    @Sentence("Terms: (by how all stands when that is asked, not when it was SEEN)")
    static void seenIsTriedByHowAllStandsNow() {
        BannisterCabinet x = check.laid("s5;w3,1;m0,3,4;m0,0,9;");
        x.seen(0, 4);
        check.due("waxes(3)", x.waxes(3), 31);
        x.help(0);
        check.due("waxes(3)", x.waxes(3), 0);
        x.undo();
        check.due("waxes(3)", x.waxes(3), 31);
        x.pass(1);
        check.due("waxes(3), he is at the TOP now", x.waxes(3), ALL);
        check.due("waxes(4)", x.waxes(4), 31);
    }

    @Sentence("Promise 23: BAD")
    static void waxesRefusesNoStep() {
        for (int s : Check.outside(0, 3)) {
            check.refused("waxes(" + s + ")", Check::busy, x -> x.waxes(s), Check.BAD);
        }
    }

    // ---- promise 24

    @Sentence("Terms: GRIPS of one: his GRIP (bits of 0 to 9) likewise.")
    static void gripsAreBitsOf0To9() {
        BannisterCabinet x = check.laid("s5;w3,9;m0,3,4;");
        x.seen(0, 4);
        check.due("grips(0), 9 alone", x.grips(0), 512);
        x = check.laid("s5;w3,5;m0,3,4;");
        x.seen(0, 0);
        check.due("grips(0), 0 alone", x.grips(0), 1);
        x = check.laid("s5;w3,1;m0,3,4;");
        x.seen(0, 4);
        check.due("grips(0), 1 to 9", x.grips(0), 1022);
        x.wax(3);
        check.due("grips(0), 2 to 9", x.grips(0), 1020);
        x = check.laid("s3;w2,9;m3,2,0;");
        x.seen(0, 2);
        check.due("grips(0) of a HOLDER at the TOP, 6 to 9", x.grips(0), 960);
    }

    @Sentence("Terms: likewise")
    static void gripsAreInPlaceOfTheGripThatHeHas() {
        for (int grip = 0; grip <= 9; grip++) {
            BannisterCabinet x = check.laid("s5;w3,5;m0,3," + grip + ";");
            x.seen(0, 4);
            check.due("grips(0) where he has " + grip, x.grips(0), ALL - 31);
            check.due("minister(0, 2)", x.minister(0, 2), grip);
        }
    }

    @Sentence("Terms: likewise")
    static void gripsGoWithAllThatIsSeen() {
        BannisterCabinet x = check.laid("s5;w3,2;m0,3,4;m0,3,1;m0,0,9;");
        x.seen(1, 4);
        check.due("grips(0), he has to wear 1 away", x.grips(0), 3);
        check.due("grips(1), he has to have 2", x.grips(1), 1020);
        check.due("grips(2), which does not matter", x.grips(2), 0);
        x.seen(0, 2);
        check.due("grips(0), with SPEED 2 or 1", x.grips(0), 3);
        x.seen(0, 3);
        check.due("grips(0), one can't be on two STEPS", x.grips(0), 0);
        x.forget();
        check.due("grips(0), nothing being SEEN", x.grips(0), ALL);
    }

    @Sentence("Terms: (by how all stands when that is asked, not when it was SEEN)")
    static void gripsAreTriedByHowAllStandsNow() {
        BannisterCabinet x = check.laid("s5;w3,5;m0,3,4;");
        x.seen(0, 4);
        check.due("grips(0)", x.grips(0), ALL - 31);
        x.sand(3);
        check.due("grips(0)", x.grips(0), ALL - 7);
        x.help(0);
        check.due("grips(0)", x.grips(0), 0);
    }

    @Sentence("Promise 24: BAD")
    static void gripsRefusesNoMinister() {
        for (int m : Check.outside(0, 1)) {
            check.refused("grips(" + m + ")", Check::busy, x -> x.grips(m), Check.BAD);
        }
    }

    @Sentence("Terms: in place of what there is")
    static void whatIsAskedChangesNothing() {
        BannisterCabinet asked = Check.busy();
        for (int s = 0; s < 4; s++) {
            asked.waxes(s);
        }
        asked.grips(0);
        asked.grips(1);
        check.unchanged("waxes and grips", asked, Check.busy());
    }
}
