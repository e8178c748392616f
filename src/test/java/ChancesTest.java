/** Promises 25 and 26: how likely one GOVERNS, and CENTURIES. */
public final class ChancesTest {
    private static final Check check = new Check();

    public static void main(String[] args) throws Exception {
        check.sentencesOf(ChancesTest.class);
        check.end();
    }

    // ---- promise 25

    private static void likelyIs(BannisterCabinet x, int m, int n, int of10, int above, int below) {
        String call = "likely(" + m + ", " + n + ", " + of10 + ", ";
        check.due(call + "0)", x.likely(m, n, of10, 0), above);
        check.due(call + "1)", x.likely(m, n, of10, 1), below);
    }

    @Sentence("Terms: how likely he GOVERNS behind them")
    static void likelyAddsUpTheWaysThatItCanGo() {
        BannisterCabinet x = check.laid("s5;m0,4,1;m0,3,9;");
        likelyIs(x, 0, 1, 3, 7, 10);
        likelyIs(x, 1, 1, 3, 3, 10);
        // the second governs only if there is WAX ahead of the second YEAR alone
        likelyIs(x, 1, 2, 3, 21, 100);
        likelyIs(x, 0, 2, 3, 79, 100);
    }

    @Sentence("Terms: LIKELY for one and n (0 to 6) YEARS")
    static void likely0IsNow() {
        BannisterCabinet x = check.laid("s5;w4,9;m0,4,1;m0,3,9;");
        for (int of10 : new int[] {0, 3, 10}) {
            likelyIs(x, 0, 0, of10, 1, 1);
            likelyIs(x, 1, 0, of10, 0, 1);
        }
    }

    @Sentence("Terms: LIKELY for one and n (0 to 6) YEARS")
    static void likely6IsTheMost() {
        // the first slips by 9 of WAX, so by the fifth time; that has to be ahead of the sixth YEAR
        BannisterCabinet x = check.laid("s3;m0,2,8;m0,0,9;");
        likelyIs(x, 1, 6, 1, 9, 200000);
        likelyIs(x, 0, 6, 1, 199991, 200000);
        likelyIs(x, 1, 6, 5, 5, 64);
        likelyIs(x, 1, 5, 5, 1, 32);
        likelyIs(x, 1, 4, 5, 0, 1);
        likelyIs(x, 1, 6, 10, 0, 1);
        likelyIs(x, 1, 5, 10, 1, 1);
    }

    @Sentence("Terms: there comes 2 of WAX more")
    static void likelyPuts2OfWax() {
        likelyIs(check.laid("s5;m0,4,1;m0,3,9;"), 1, 1, 10, 1, 1);
        likelyIs(check.laid("s5;m0,4,2;m0,3,9;"), 1, 1, 10, 0, 1);
        likelyIs(check.laid("s5;w4,1;m0,4,2;m0,3,9;"), 1, 1, 10, 1, 1);
    }

    @Sentence("Terms: (9 at most) to the STEP")
    static void likelyPutsNoMoreThan9There() {
        // by SPEED 8 he comes to STEP 11 as the second does, by 9 below it
        likelyIs(check.laid("s16;w15,8;m0,15,1;m0,10,9;"), 0, 1, 10, 1, 1);
        likelyIs(check.laid("s16;w15,7;m0,15,1;m0,10,9;"), 0, 1, 10, 1, 1);
        likelyIs(check.laid("s16;w15,8;m0,15,9;m0,10,9;"), 0, 1, 10, 1, 1);
        likelyIs(check.laid("s16;w15,8;m0,15,8;m0,14,9;"), 1, 1, 10, 1, 1);
    }

    @Sentence("Terms: to the STEP of who GOVERNS then")
    static void likelyPutsWaxWhereOneGovernsThen() {
        // ahead of the second YEAR the second GOVERNS, at the TOP, and the first comes up to him
        likelyIs(check.laid("s5;m0,4,1;m0,3,9;"), 0, 2, 10, 1, 1);
        likelyIs(check.laid("s5;m0,2,9;m0,4,1;"), 0, 1, 10, 1, 1);
        // he is on STEP 3 then, not on STEP 2
        likelyIs(check.laid("s5;w3,1;m0,2,2;m0,0,9;"), 1, 2, 10, 1, 1);
        // not at the TOP
        likelyIs(check.laid("s5;m0,3,1;m0,2,9;"), 1, 1, 10, 1, 1);
        likelyIs(check.laid("s5;m0,0,1;m0,0,9;"), 1, 1, 10, 1, 1);
    }

    @Sentence("Terms: by x (0 to 10) of ten")
    static void likelyBy0OfTenIsWithoutWax() {
        BannisterCabinet x = check.laid("s5;m0,4,1;m0,3,9;");
        for (int n = 0; n <= 6; n++) {
            likelyIs(x, 0, n, 0, 1, 1);
            likelyIs(x, 1, n, 0, 0, 1);
        }
    }

    @Sentence("Terms: by x (0 to 10) of ten")
    static void likelyBy10OfTenIsWithWax() {
        BannisterCabinet x = check.laid("s5;m0,4,1;m0,3,9;");
        likelyIs(x, 0, 1, 10, 0, 1);
        likelyIs(x, 1, 1, 10, 1, 1);
        likelyIs(x, 0, 2, 10, 1, 1);
    }

    @Sentence("Terms: in lowest terms")
    static void likelyIsInLowestTerms() {
        BannisterCabinet x = check.laid("s5;m0,4,1;m0,3,9;");
        int[][] of10 = {{1, 10}, {1, 5}, {3, 10}, {2, 5}, {1, 2}, {3, 5}, {7, 10}, {4, 5}, {9, 10}};
        for (int i = 0; i < of10.length; i++) {
            likelyIs(x, 1, 1, i + 1, of10[i][0], of10[i][1]);
        }
        likelyIs(x, 1, 2, 4, 6, 25);
        likelyIs(x, 1, 2, 5, 1, 4);
        likelyIs(x, 0, 2, 4, 19, 25);
    }

    @Sentence("Terms: in lowest terms")
    static void neverIs0Of1AndAlways1Of1() {
        BannisterCabinet x = check.laid("s3;m0,2,9;m0,0,9;");
        for (int n = 0; n <= 6; n++) {
            likelyIs(x, 0, n, 5, 1, 1);
            likelyIs(x, 1, n, 5, 0, 1);
        }
    }

    @Sentence("Promise 25: BAD")
    static void likelyRefusesWhatIsNotTold() {
        for (int m : Check.outside(0, 1)) {
            check.refused("likely(" + m + ", 1, 1, 0)", Check::busy, x -> x.likely(m, 1, 1, 0), Check.BAD);
        }
        for (int n : Check.outside(0, 6)) {
            check.refused("likely(0, " + n + ", 1, 0)", Check::busy, x -> x.likely(0, n, 1, 0), Check.BAD);
        }
        for (int of10 : Check.outside(0, 10)) {
            check.refused("likely(0, 1, " + of10 + ", 0)", Check::busy, x -> x.likely(0, 1, of10, 0), Check.BAD);
        }
        for (int part : Check.outside(0, 1)) {
            check.refused("likely(0, 1, 1, " + part + ")", Check::busy, x -> x.likely(0, 1, 1, part), Check.BAD);
        }
    }

    // ---- promise 26: DRAWS are worked out by hand in the remarks

    private static void centuryIs(String text, int z, int n, int governs, int changes) {
        BannisterCabinet x = check.laid(text);
        check.due("century(" + z + ", " + n + ", 0) of " + text, x.century(z, n, 0), governs);
        check.due("century(" + z + ", " + n + ", 1) of " + text, x.century(z, n, 1), changes);
    }

    @Sentence("Terms: there is 1 of WAX more (9 at most) at STEP DRAW modulo S")
    static void centuryPutsWaxAtDrawModuloS() {
        // z 1, YEAR 0: x is 7920, DRAW 11401: 1 by 10 STEPS, 1 by 3, 5 by 7, 9 by 16
        centuryIs("m0,1,0;m0,0,9;", 1, 1, 1, 1);
        centuryIs("m0,2,0;m0,1,9;", 1, 1, 0, 0);
        centuryIs("s3;m0,1,0;m0,0,9;", 1, 1, 1, 1);
        centuryIs("s7;m0,5,0;m0,4,9;", 1, 1, 1, 1);
        centuryIs("s16;m0,9,0;m0,8,9;", 1, 1, 1, 1);
        centuryIs("s16;m0,1,0;m0,0,9;", 1, 1, 0, 0);
    }

    @Sentence("Terms: 1 of WAX more (9 at most)")
    static void centuryPutsNoMoreThan9There() {
        centuryIs("m0,1,9;w1,9;m0,0,9;", 1, 1, 0, 0);
        centuryIs("m0,1,8;w1,8;m0,0,9;", 1, 1, 1, 1);
        centuryIs("s16;w9,9;m0,9,9;m0,8,9;", 1, 1, 0, 0);
    }

    @Sentence("Terms: if (DRAW by 16, cut) modulo 2 is 0")
    static void centuryPutsWaxByEvenSixteenthsAlone() {
        // z 9999, YEAR 0: DRAW 25651, 1 by 10 STEPS; by 16 it is 1603
        centuryIs("m0,1,0;m0,0,9;", 9999, 1, 0, 0);
        // z 1: DRAW 11401; by 16 it is 712
        centuryIs("m0,1,0;m0,0,9;", 1, 1, 1, 1);
    }

    @Sentence("Terms: and 2 less (0 at least) at STEP (DRAW by 32, cut) modulo S")
    static void centuryTakes2Away() {
        // z 57, YEAR 0: DRAW 3382, by 32 it is 105: 5 by 10 STEPS, 9 by 16; by 16 it is 211
        centuryIs("w5,2;m0,5,0;m0,4,9;", 57, 1, 0, 0);
        centuryIs("w5,3;m0,5,0;m0,4,9;", 57, 1, 1, 1);
        centuryIs("w5,3;m0,5,1;m0,4,9;", 57, 1, 0, 0);
        centuryIs("s16;w9,2;m0,9,0;m0,8,9;", 57, 1, 0, 0);
        centuryIs("s16;w5,2;m0,5,0;m0,4,9;", 57, 1, 1, 1);
    }

    @Sentence("Terms: 2 less (0 at least)")
    static void centuryLeaves0AtLeast() {
        // z 7, YEAR 0: DRAW 29488, by 32 it is 921: 1 by 10 STEPS; by 16 it is 1843.
        // He slides by STEP 1 with SPEED 3 - 2; by less than none there he would stop
        centuryIs("w2,3;m0,2,0;m0,0,9;", 7, 1, 1, 1);
        centuryIs("w2,3;w1,1;m0,2,0;m0,0,9;", 7, 1, 1, 1);
    }

    @Sentence("Terms: if (DRAW by 512, cut) modulo 3 is 0")
    static void centuryTakesAwayByThirdsOf512Alone() {
        // z 1, YEAR 0: DRAW 11401, by 32 it is 356: 6 by 10 STEPS; by 512 it is 22
        centuryIs("w6,2;m0,6,1;m0,5,9;", 1, 1, 1, 1);
        // z 57: by 512 it is 6
        centuryIs("w5,2;m0,5,0;m0,4,9;", 57, 1, 0, 0);
        // z 185, YEAR 0: DRAW 12304, 16 above 24 times 512; z 204: DRAW 17432, 24 above 34 times 512; both at STEP 4
        centuryIs("w4,2;m0,4,0;m0,3,9;", 185, 1, 0, 0);
        centuryIs("w4,2;m0,4,1;m0,3,9;", 204, 1, 1, 1);
    }

    @Sentence("Terms: there is 1 of WAX more (9 at most) at STEP DRAW modulo S, if (DRAW by 16, cut) modulo 2 is 0,"
        + " and 2 less (0 at least)")
    static void centuryPutsAheadOfTakingAway() {
        // z 0, YEAR 0: DRAW 0, both at STEP 0: of 0 there is 0 left
        centuryIs("m0,0,0;m0,0,9;", 0, 1, 0, 0);
        // z 71, YEAR 0: DRAW 31215, both at STEP 5: of 9 there is 7 left, 9 being the most
        centuryIs("w5,9;m0,5,7;m0,4,9;", 71, 1, 0, 0);
        centuryIs("w5,9;m0,5,6;m0,4,9;", 71, 1, 1, 1);
    }

    @Sentence("Terms: A CENTURY by z (0 to 9999)")
    static void centuryIsByZFrom0To9999() {
        // z 0, YEAR 1: DRAW 20743, WAX at STEP 3
        centuryIs("m0,2,0;m0,1,9;", 0, 1, 0, 0);
        centuryIs("m0,2,0;m0,1,9;", 0, 2, 1, 1);
        // z 9999, YEARS 0 and 1: nothing; YEAR 2: x is 79194384, DRAW 3384, by 32 it is 105: STEP 5
        centuryIs("w5,2;m0,3,0;m0,2,9;", 9999, 3, 0, 0);
        check.due("behind(3, 0, 1)", check.laid("w5,2;m0,3,0;m0,2,9;").behind(3, 0, 1), 1);
    }

    @Sentence("Terms: DRAW being ((x times x) modulo 65521) by 2, cut")
    static void centuryHoldsOutNumbersBeyondAnInt() {
        // z 9998, YEAR 0: nothing; YEAR 1: x is 79180314, DRAW 32750, WAX at STEP 14 of 16
        centuryIs("s16;m0,13,0;m0,12,9;", 9998, 1, 0, 0);
        centuryIs("s16;m0,13,0;m0,12,9;", 9998, 2, 1, 1);
    }

    @Sentence("Terms: of n (1 to 60) YEARS from now on")
    static void centuryIsOf1To60Years() {
        centuryIs("m0,1,0;m0,0,9;", 1, 1, 1, 1);
        // one alone goes on governing
        centuryIs("m0,0,0;", 9999, 60, 0, 0);
        // these by the Model: the last of 60 YEARS counts
        centuryIs("s3;w2,8;m0,2,8;m0,2,9;", 136, 59, 1, 17);
        centuryIs("s3;w2,8;m0,2,8;m0,2,9;", 136, 60, 0, 18);
    }

    @Sentence("Terms: (the YEAR of these, 0 first)")
    static void centuryCountsItsYearsFrom0() {
        // z 1, YEAR 1: DRAW 27050, WAX at the TOP, where the first holds out with 8 and not with 9
        BannisterCabinet x = check.laid("s3;w2,8;m0,2,8;m0,2,9;");
        for (int year = 0; year < 8; year++) {
            check.due("century(1, 1, 0) in YEAR " + year, x.century(1, 1, 0), 0);
            check.due("century(1, 2, 0) in YEAR " + year, x.century(1, 2, 0), 1);
            check.due("century(1, 3, 0) in YEAR " + year, x.century(1, 3, 0), 0);
            x.pass(1);
        }
    }

    @Sentence("Terms: how often, behind these YEARS, another one GOVERNED than behind the one ahead")
    static void centuryTellsHowOftenAnotherOneGoverned() {
        BannisterCabinet x = check.laid("s3;w2,8;m0,2,8;m0,2,9;");
        check.due("century(1, 1, 1)", x.century(1, 1, 1), 0);
        check.due("century(1, 2, 1)", x.century(1, 2, 1), 1);
        check.due("century(1, 3, 1)", x.century(1, 3, 1), 2);
    }

    @Sentence("Terms: (than now, the first time)")
    static void centuryLooksAtWhoGovernsNowTheFirstTime() {
        centuryIs("m0,1,0;m0,0,9;", 1, 1, 1, 1);
        // without any WAX the first comes up to the second at the TOP
        centuryIs("s5;m0,3,9;m0,4,9;", 1, 1, 0, 1);
        centuryIs("s5;m0,4,9;m0,3,9;", 1, 1, 0, 0);
    }

    @Sentence("Terms: (nothing changes by it)")
    static void whatIsAskedChangesNothing() {
        BannisterCabinet asked = Check.busy();
        asked.century(77, 60, 0);
        asked.century(9999, 1, 1);
        asked.likely(0, 6, 5, 0);
        asked.likely(1, 6, 10, 1);
        check.unchanged("likely and century", asked, Check.busy());
    }

    @Sentence("Promise 26: BAD")
    static void centuryRefusesWhatIsNotTold() {
        for (int z : Check.outside(0, 9999)) {
            check.refused("century(" + z + ", 1, 0)", Check::busy, x -> x.century(z, 1, 0), Check.BAD);
        }
        for (int n : Check.outside(1, 60)) {
            check.refused("century(0, " + n + ", 0)", Check::busy, x -> x.century(0, n, 0), Check.BAD);
        }
        for (int what : Check.outside(0, 1)) {
            check.refused("century(0, 1, " + what + ")", Check::busy, x -> x.century(0, 1, what), Check.BAD);
        }
    }
}
