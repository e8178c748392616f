/** Promises 13 to 26: what comes, what was seen, chances and centuries. */
public final class ForesightTest {
    /** In the third YEAR the first slips from the TOP, in the fourth he is back. */
    private static final String SLIPS_IN_THE_THIRD = "s5;w4,2;m0,4,0;m0,2,9;";
    /** The first wears the WAX away by which the second would slip. */
    private static final String WORN_BY_THE_FIRST = "s5;w3,1;m0,3,0;m0,3,0;";

    private static final Check check = new Check();

    public static void main(String[] args) {
        governs();
        behind();
        slide();
        top();
        topple();
        plot();
        plotEdges();
        hold();
        holdEdges();
        cabinet();
        seen();
        waxesAndGrips();
        likely();
        likelyEdges();
        century();
        nothingChanges();
        check.end();
    }

    private static void governs() {
        check.part("promise 13");
        check.due("governs()", check.laid("s5;m0,2,0;m0,3,0;m0,3,0;").governs(), 1);
        check.due("governs()", check.laid("s5;m0,0,0;m0,0,0;").governs(), 0);
        check.due("governs()", check.laid("s5;m0,1,0;m0,2,0;m3,4,0;").governs(), 2);
        BannisterCabinet x = check.laid("s5;m0,4,0;m0,2,0;");
        x.help(0);
        check.due("governs()", x.governs(), 1);
    }

    private static void behind() {
        check.part("promise 14");
        BannisterCabinet x = check.laid(SLIPS_IN_THE_THIRD);
        int[][] first = {{4, 0, 0}, {3, 0, 1}, {4, 0, 2}, {3, 1, 2}, {4, 0, 3}, {4, 0, 4}};
        int[][] second = {{2, 0, 0}, {3, 0, 0}, {4, 0, 0}, {4, 1, 1}, {4, 0, 1}, {4, 0, 1}};
        for (int n = 0; n < first.length; n++) {
            for (int what = 0; what < 3; what++) {
                check.due("behind(" + n + ", 0, " + what + ")", x.behind(n, 0, what), first[n][what]);
                check.due("behind(" + n + ", 1, " + what + ")", x.behind(n, 1, what), second[n][what]);
            }
        }
        check.due("behind(40, 0, 2)", x.behind(40, 0, 2), 39);
        x.pass(3);
        check.due("behind(1, 0, 2)", x.behind(1, 0, 2), 3);
        check.due("behind(0, 1, 2)", x.behind(0, 1, 2), 1);
        check.due("behind(41, 0, 0)", x.behind(41, 0, 0), Check.BAD);
        check.due("behind(-1, 0, 0)", x.behind(-1, 0, 0), Check.BAD);
        check.due("behind(1, 2, 0)", x.behind(1, 2, 0), Check.BAD);
        check.due("behind(1, 2, 1)", x.behind(1, 2, 1), Check.BAD);
        check.due("behind(1, -1, 0)", x.behind(1, -1, 0), Check.BAD);
        check.due("behind(1, 0, 3)", x.behind(1, 0, 3), Check.BAD);
        check.due("behind(1, 0, -1)", x.behind(1, 0, -1), Check.BAD);
    }

    private static void slide() {
        check.part("promise 15");
        BannisterCabinet x = check.laid(WORN_BY_THE_FIRST);
        check.due("minister(1, 4)", x.minister(1, 4), 1);
        check.due("slide(0)", x.slide(0), 2);
        check.due("slide(1)", x.slide(1), 4);
        check.due("slide(2)", x.slide(2), Check.BAD);
        check.due("slide(-1)", x.slide(-1), Check.BAD);
        check.due("slide(0)", check.laid("s3;m0,2,0;").slide(0), 2);
        check.due("slide(0)", check.laid("s3;w0,1;m0,0,0;").slide(0), 0);
    }

    private static void top() {
        check.part("promise 16");
        BannisterCabinet x = check.laid(SLIPS_IN_THE_THIRD);
        check.due("top(0)", x.top(0), 0);
        check.due("top(1)", x.top(1), 2);
        check.due("top(2)", x.top(2), Check.BAD);
        check.due("top(-1)", x.top(-1), Check.BAD);
        check.due("top(0)", check.laid("s16;m0,0,0;").top(0), 15);
        check.due("top(0)", check.laid("s3;w0,1;m0,0,0;").top(0), Check.NONE);
        // 18 YEARS between 0 and 1, 16 more to have worn STEP 2, then up
        check.due("top(0)", check.laid("s7;w1,9;w2,6;m0,0,0;").top(0), 40);
        check.due("top(0)", check.laid("s8;w1,9;w2,6;m0,0,0;").top(0), Check.NONE);
    }

    private static void topple() {
        check.part("promise 17");
        check.due("topple(0)", check.laid("s5;w3,2;f0;m0,3,4;").topple(0), 3);
        check.due("topple(0)", check.laid("s5;w3,5;m0,3,4;").topple(0), 0);
        check.due("topple(0)", check.laid("s5;m0,3,8;").topple(0), 9);
        check.due("topple(0)", check.laid("s5;m0,3,9;").topple(0), Check.NONE);
        check.due("topple(0)", check.laid("s5;w3,9;m0,3,9;").topple(0), Check.NONE);
        check.due("topple(0)", check.laid("s5;w4,7;m3,4,5;").topple(0), 2);
        check.due("topple(0)", check.laid("s5;w4,7;m3,4,6;").topple(0), Check.NONE);
        check.due("topple(0)", check.laid("s5;m0,0,3;").topple(0), 4);
        BannisterCabinet x = check.laid(WORN_BY_THE_FIRST);
        check.due("topple(0)", x.topple(0), 0);
        check.due("topple(1)", x.topple(1), 1);
        check.due("topple(2)", x.topple(2), Check.BAD);
        check.due("topple(-1)", x.topple(-1), Check.BAD);
        // the first slides by and wears the STEP of the second
        check.due("topple(1)", check.laid("s5;w4,9;w2,1;m0,4,0;m0,2,0;").topple(1), 1);
        // the other way round he does not
        check.due("topple(0)", check.laid("s5;w4,9;w2,1;m0,2,0;m0,4,0;").topple(0), 0);
    }

    private static void plotIs(String text, int m, int n, int much, int where) {
        BannisterCabinet x = check.laid(text);
        check.due("plot(" + m + ", " + n + ", 0) of " + text, x.plot(m, n, 0), much);
        check.due("plot(" + m + ", " + n + ", 1) of " + text, x.plot(m, n, 1), where);
    }

    private static void plot() {
        check.part("promise 18");
        plotIs("s5;f0;m0,3,2;m0,1,9;", 1, 1, 5, 3);
        plotIs("s5;f0;m0,3,2;m0,1,9;", 0, 1, 0, Check.NONE);
        // by 5 at STEP 4 as well
        plotIs("s5;m0,3,2;m0,1,9;", 1, 2, 5, 3);
        plotIs("s5;m0,3,2;m0,1,9;", 0, 9, 0, Check.NONE);
        plotIs("s3;m0,2,9;m0,0,9;", 1, 9, Check.NONE, Check.NONE);
        plotIs("s5;w3,8;m0,3,8;m0,2,9;", 1, 1, 1, 3);
        plotIs("s5;w4,7;m3,4,5;m0,4,9;", 1, 1, 2, 4);
        plotIs("s5;w4,7;m3,4,6;m0,4,9;", 1, 1, Check.NONE, Check.NONE);
        plotIs("s5;m0,3,8;m0,2,9;", 1, 1, 9, 3);
        plotIs("s5;m0,0,2;m0,0,9;", 1, 1, 3, 0);
        plotIs(SLIPS_IN_THE_THIRD, 1, 3, 0, Check.NONE);
        plotIs(SLIPS_IN_THE_THIRD, 0, 4, 0, Check.NONE);
    }

    private static void plotEdges() {
        check.part("promise 18, edges");
        BannisterCabinet x = check.laid("s5;m0,3,2;m0,1,9;");
        check.due("plot(2, 1, 0)", x.plot(2, 1, 0), Check.BAD);
        check.due("plot(-1, 1, 0)", x.plot(-1, 1, 0), Check.BAD);
        check.due("plot(0, 0, 0)", x.plot(0, 0, 0), Check.BAD);
        check.due("plot(0, 10, 0)", x.plot(0, 10, 0), Check.BAD);
        check.due("plot(0, 1, -1)", x.plot(0, 1, -1), Check.BAD);
        check.due("plot(0, 1, 2)", x.plot(0, 1, 2), Check.BAD);
    }

    private static void holdIs(String text, int n, int often, int where) {
        BannisterCabinet x = check.laid(text);
        check.due("hold(" + n + ", 0) of " + text, x.hold(n, 0), often);
        check.due("hold(" + n + ", 1) of " + text, x.hold(n, 1), where);
    }

    private static void hold() {
        check.part("promise 19");
        holdIs("s5;f0;w4,5;m0,4,2;m0,3,9;", 1, 2, 4);
        holdIs("s5;f0;w4,5;m0,4,2;m0,3,9;", 9, 2, 4);
        holdIs("s5;w3,9;w4,9;m0,3,0;m0,2,9;", 1, 5, 3);
        holdIs("s5;w3,9;w4,9;m0,3,0;m0,2,9;", 2, Check.NONE, Check.NONE);
        // SAND on STEP 5 would do as well
        holdIs("s7;w4,4;w5,2;m0,5,0;m0,2,9;", 1, 1, 4);
        holdIs(SLIPS_IN_THE_THIRD, 2, 0, Check.NONE);
        holdIs(SLIPS_IN_THE_THIRD, 3, 1, 4);
        // behind the fourth he governs again, but not behind each
        holdIs(SLIPS_IN_THE_THIRD, 4, 1, 4);
        holdIs("s5;w0,5;m0,0,0;m0,0,9;", 1, 3, 0);
        holdIs("s5;m0,0,0;", 9, 0, Check.NONE);
    }

    private static void holdEdges() {
        check.part("promise 19, edges");
        BannisterCabinet x = new BannisterCabinet();
        check.due("hold(0, 0)", x.hold(0, 0), Check.BAD);
        check.due("hold(10, 0)", x.hold(10, 0), Check.BAD);
        check.due("hold(-1, 0)", x.hold(-1, 0), Check.BAD);
        check.due("hold(1, -1)", x.hold(1, -1), Check.BAD);
        check.due("hold(1, 2)", x.hold(1, 2), Check.BAD);
    }

    private static void cabinetIs(String text, int many, int which) {
        BannisterCabinet x = check.laid(text);
        check.due("cabinet(0) of " + text, x.cabinet(0), many);
        check.due("cabinet(1) of " + text, x.cabinet(1), which);
    }

    private static void cabinet() {
        check.part("promise 20");
        cabinetIs("m0,9,0;m0,3,0;m0,3,0;m0,0,0;", 1, 1);
        cabinetIs("m0,0,0;m0,3,0;m0,3,0;m0,9,0;", 1, 8);
        cabinetIs("m0,4,0;m0,4,0;m0,4,0;m0,4,0;", 3, 7);
        cabinetIs("m0,4,0;m0,4,0;", 2, 3);
        cabinetIs("m0,4,0;m0,5,0;", 1, 2);
        cabinetIs("m0,1,0;m0,4,0;m0,2,0;", 2, 3);
        cabinetIs("m0,0,0;m0,2,0;m0,3,0;", 2, 5);
        cabinetIs("m0,0,0;m0,0,0;m0,0,0;m0,0,0;m0,0,0;m0,0,0;m0,0,0;", 4, 15);
        cabinetIs("m0,0,0;", 1, 1);
        BannisterCabinet x = new BannisterCabinet();
        check.due("cabinet(-1)", x.cabinet(-1), Check.BAD);
        check.due("cabinet(2)", x.cabinet(2), Check.BAD);
    }

    private static void seen() {
        check.part("promises 21 and 22");
        BannisterCabinet x = check.laid("s5;m0,3,4;m0,0,9;");
        check.due("seen(2, 0)", x.seen(2, 0), Check.BAD);
        check.due("seen(-1, 0)", x.seen(-1, 0), Check.BAD);
        check.due("seen(0, 5)", x.seen(0, 5), Check.BAD);
        check.due("seen(0, -1)", x.seen(0, -1), Check.BAD);
        check.due("forget()", x.forget(), 0);
        for (int many = 1; many <= 6; many++) {
            check.due("seen(0, 4)", x.seen(0, 4), many);
        }
        check.due("seen(0, 1)", x.seen(0, 1), Check.FULL);
        check.due("seen(0, 5)", x.seen(0, 5), Check.BAD);
        check.due("waxes(0)", x.waxes(0), 1023);
        check.due("count(5)", x.count(5), 6);
        check.due("forget()", x.forget(), 6);
        check.due("count(5)", x.count(5), 0);
        check.due("seen(1, 0)", x.seen(1, 0), 1);
    }

    private static void waxesAndGrips() {
        check.part("promises 23 and 24");
        BannisterCabinet x = check.laid("s5;w3,1;m0,3,4;m0,0,9;");
        check.due("waxes(3)", x.waxes(3), 1023);
        check.due("grips(0)", x.grips(0), 1023);
        x.seen(0, 4);
        check.due("waxes(3)", x.waxes(3), 31);
        check.due("waxes(0)", x.waxes(0), 1023);
        check.due("grips(0)", x.grips(0), 1022);
        check.due("grips(1)", x.grips(1), 1023);
        x.seen(1, 1);
        check.due("waxes(3)", x.waxes(3), 31);
        x.wax(3);
        check.due("grips(0)", x.grips(0), 1020);
        x.help(0);
        check.due("waxes(3)", x.waxes(3), 0);
        x.undo();
        check.due("waxes(3)", x.waxes(3), 31);
        x.forget();
        x.seen(0, 2);
        // with SPEED 1 and 2 he is stopped at STEP 2
        check.due("waxes(3)", x.waxes(3), 32 + 64);
        check.due("grips(0)", x.grips(0), 3);
        x.seen(0, 3);
        check.due("waxes(3)", x.waxes(3), 0);
        check.due("grips(0)", x.grips(0), 0);
        check.due("waxes(5)", x.waxes(5), Check.BAD);
        check.due("waxes(-1)", x.waxes(-1), Check.BAD);
        check.due("grips(2)", x.grips(2), Check.BAD);
        check.due("grips(-1)", x.grips(-1), Check.BAD);
    }

    private static void likelyIs(BannisterCabinet x, int m, int n, int of10, int above, int below) {
        String call = "likely(" + m + ", " + n + ", " + of10 + ", ";
        check.due(call + "0)", x.likely(m, n, of10, 0), above);
        check.due(call + "1)", x.likely(m, n, of10, 1), below);
    }

    private static void likely() {
        check.part("promise 25");
        BannisterCabinet x = check.laid("s5;m0,4,1;m0,3,9;");
        likelyIs(x, 0, 1, 4, 3, 5);
        likelyIs(x, 1, 1, 4, 2, 5);
        likelyIs(x, 0, 1, 0, 1, 1);
        likelyIs(x, 1, 1, 0, 0, 1);
        likelyIs(x, 0, 1, 10, 0, 1);
        likelyIs(x, 1, 1, 10, 1, 1);
        likelyIs(x, 0, 1, 3, 7, 10);
        // the second governs only if there is WAX ahead of the second YEAR alone
        likelyIs(x, 1, 2, 4, 6, 25);
        likelyIs(x, 0, 2, 4, 19, 25);
        likelyIs(x, 1, 2, 3, 21, 100);
        likelyIs(x, 0, 0, 3, 1, 1);
        likelyIs(x, 1, 0, 3, 0, 1);
        likelyIs(check.laid("s5;m0,4,2;m0,3,9;"), 1, 1, 10, 0, 1);
        // 9 of WAX at most: by 10 he would be lower than the second
        x = check.laid("s16;w15,8;m0,15,1;m0,10,9;");
        likelyIs(x, 0, 1, 10, 1, 1);
    }

    private static void likelyEdges() {
        check.part("promise 25, edges");
        BannisterCabinet x = check.laid("s5;m0,4,1;m0,3,9;");
        check.due("likely(2, 1, 1, 0)", x.likely(2, 1, 1, 0), Check.BAD);
        check.due("likely(-1, 1, 1, 0)", x.likely(-1, 1, 1, 0), Check.BAD);
        check.due("likely(0, 7, 1, 0)", x.likely(0, 7, 1, 0), Check.BAD);
        check.due("likely(0, -1, 1, 0)", x.likely(0, -1, 1, 0), Check.BAD);
        check.due("likely(0, 1, 11, 0)", x.likely(0, 1, 11, 0), Check.BAD);
        check.due("likely(0, 1, -1, 0)", x.likely(0, 1, -1, 0), Check.BAD);
        check.due("likely(0, 1, 1, 2)", x.likely(0, 1, 1, 2), Check.BAD);
        check.due("likely(0, 1, 1, -1)", x.likely(0, 1, 1, -1), Check.BAD);
        likelyIs(check.laid("s3;m0,0,9;"), 0, 6, 5, 1, 1);
    }

    private static void century() {
        check.part("promise 26");
        // z 0: DRAW 0 in YEAR 0 (STEP 0: 1 more, then 2 less), 20743 in YEAR 1 (STEP 3: 1 more)
        BannisterCabinet x = check.laid("s10;m0,0,0;m0,0,9;");
        check.due("century(0, 1, 0)", x.century(0, 1, 0), 0);
        check.due("century(0, 1, 1)", x.century(0, 1, 1), 0);
        x = check.laid("s10;m0,2,0;m0,1,9;");
        check.due("century(0, 1, 0)", x.century(0, 1, 0), 0);
        check.due("century(0, 2, 0)", x.century(0, 2, 0), 1);
        check.due("century(0, 2, 1)", x.century(0, 2, 1), 1);
        for (int z : new int[] {-1, 10000, Integer.MIN_VALUE}) {
            check.due("century(" + z + ", 1, 0)", x.century(z, 1, 0), Check.BAD);
        }
        for (int n : new int[] {-1, 0, 61, Integer.MAX_VALUE}) {
            check.due("century(0, " + n + ", 0)", x.century(0, n, 0), Check.BAD);
        }
        check.due("century(0, 1, -1)", x.century(0, 1, -1), Check.BAD);
        check.due("century(0, 1, 2)", x.century(0, 1, 2), Check.BAD);
        check.due("century(9999, 60, 0)", check.laid("m0,0,0;").century(9999, 60, 0), 0);
        check.due("century(9999, 60, 1)", check.laid("m0,0,0;").century(9999, 60, 1), 0);
    }

    private static void nothingChanges() {
        check.part("what is asked changes nothing");
        BannisterCabinet x = new BannisterCabinet();
        x.wax(3);
        x.pass(1);
        x.seen(0, 3);
        int[] before = picture(x);
        x.behind(40, 0, 0);
        x.slide(0);
        x.top(3);
        x.topple(1);
        x.plot(4, 9, 0);
        x.hold(9, 0);
        x.cabinet(0);
        x.waxes(3);
        x.grips(2);
        x.likely(0, 6, 5, 0);
        x.century(77, 60, 0);
        x.fault();
        int[] after = picture(x);
        for (int i = 0; i < before.length; i++) {
            check.due("number " + i + " of what stands", after[i], before[i]);
        }
    }

    private static int[] picture(BannisterCabinet x) {
        int[] numbers = new int[100];
        int size = 0;
        for (int what = 0; what < 9; what++) {
            numbers[size++] = x.count(what);
        }
        for (int m = 0; m < 5; m++) {
            for (int what = 0; what < 5; what++) {
                numbers[size++] = x.minister(m, what);
            }
        }
        for (int s = 0; s < 10; s++) {
            for (int what = 0; what < 4; what++) {
                numbers[size++] = x.step(s, what);
            }
        }
        return numbers;
    }
}
