/** Promises 6 to 12 and 27 to 29: what stands, YEARS that go by, acts, UNDONE, KEPT. */
public final class ActsTest {
    private static final Check check = new Check();

    public static void main(String[] args) {
        minister();
        step();
        slides();
        grips();
        turnsInOrder();
        reigns();
        passEdges();
        wax();
        sand();
        help();
        undo();
        undoRing();
        keepAndBack();
        count();
        check.end();
    }

    private static void minister() {
        check.part("promise 6");
        BannisterCabinet x = check.laid("s5;w4,6;w2,6;w0,1;m3,4,3;m3,4,2;m3,2,5;m3,2,6;m0,0,0;m0,0,1;m1,4,9;");
        int[] slips = {0, 1, 1, 0, 1, 0, 0};
        for (int m = 0; m < slips.length; m++) {
            check.due("minister(" + m + ", 4)", x.minister(m, 4), slips[m]);
        }
        check.due("minister(6, 0)", x.minister(6, 0), 1);
        check.due("minister(6, 1)", x.minister(6, 1), 4);
        check.due("minister(6, 2)", x.minister(6, 2), 9);
        check.due("minister(6, 3)", x.minister(6, 3), 0);
        for (int what : new int[] {-1, 5, 99, Integer.MIN_VALUE}) {
            check.due("minister(0, " + what + ")", x.minister(0, what), Check.BAD);
        }
        for (int m : new int[] {-1, 7, 8, 99, Integer.MAX_VALUE, Integer.MIN_VALUE}) {
            check.due("minister(" + m + ", 0)", x.minister(m, 0), Check.BAD);
        }
    }

    private static void step() {
        check.part("promise 7");
        BannisterCabinet x = check.laid("s16;w15,9;w0,3;k15;k0;t15;t7;m0,15,9;m1,15,9;m0,0,9;");
        check.due("step(15, 0)", x.step(15, 0), 9);
        check.due("step(15, 1)", x.step(15, 1), 1);
        check.due("step(15, 2)", x.step(15, 2), 1);
        check.due("step(15, 3)", x.step(15, 3), 2);
        check.due("step(0, 0)", x.step(0, 0), 3);
        check.due("step(0, 1)", x.step(0, 1), 1);
        check.due("step(0, 2)", x.step(0, 2), 0);
        check.due("step(0, 3)", x.step(0, 3), 1);
        check.due("step(7, 1)", x.step(7, 1), 0);
        check.due("step(7, 2)", x.step(7, 2), 1);
        check.due("step(7, 3)", x.step(7, 3), 0);
        for (int what : new int[] {-1, 4, Integer.MAX_VALUE}) {
            check.due("step(0, " + what + ")", x.step(0, what), Check.BAD);
        }
        for (int s : new int[] {-1, 16, 32, Integer.MAX_VALUE, Integer.MIN_VALUE}) {
            check.due("step(" + s + ", 0)", x.step(s, 0), Check.BAD);
        }
        x = check.laid("s5;m0,0,0;");
        check.due("step(4, 0)", x.step(4, 0), 0);
        check.due("step(5, 0)", x.step(5, 0), Check.BAD);
    }

    /** The first MINISTER's STEP behind a YEAR, and the WAX of all STEPS then. */
    private static void year(String text, int place, int wax) {
        BannisterCabinet x = check.laid(text);
        check.due("pass(1) of " + text, x.pass(1), 1);
        check.due("minister(0, 1) of " + text, x.minister(0, 1), place);
        check.due("count(4) of " + text, x.count(4), wax);
    }

    private static void slides() {
        check.part("promise 8, slides");
        year("s6;w4,9;m0,4,9;", 5, 9);
        year("s6;w5,9;m0,5,9;", 5, 9);
        // SPEED 9, 7, 5, 3: at the foot
        year("s6;w4,9;m0,4,0;", 0, 8);
        year("s6;w4,9;k2;m0,4,0;", 2, 8);
        year("s6;w4,9;k4;m0,4,0;", 0, 8);
        year("s6;w4,9;t2;m0,4,0;", 0, 8);
        year("s6;w4,9;t2;m1,4,0;", 1, 8);
        year("s6;w4,9;t2;m3,4,0;", 0, 8);
        year("s6;w4,9;t2;m2,4,0;", 2, 8);
        year("s6;w4,9;k2;m2,4,0;", 2, 8);
        year("s6;w4,9;k2;m3,4,0;", 2, 8);
        // a KNOB stops whatever WAX there is
        year("s6;w4,9;w2,9;k2;m0,4,0;", 2, 17);
        // SPEED 9, 7, 5, 3, 1, -1; by a VELVET one 9, 5, 1, -3
        year("s8;w6,9;m0,6,0;", 1, 8);
        year("s8;w6,9;m1,6,0;", 3, 8);
        year("s8;w6,9;m2,6,0;", 1, 8);
        year("s8;w6,8;m1,6,0;", 4, 7);
        // SPEED 2, 5, 3, 1, -1: of two STEPS that he leaves 1 is gone
        year("s8;w6,2;w5,5;m0,6,0;", 2, 5);
        // SPEED 2 and 0: it has to be above 0
        year("s8;w6,2;m0,6,0;", 5, 1);
        year("s8;w6,3;m0,6,0;", 4, 2);
        // at the foot he stays, and leaves nothing
        year("s8;w0,5;m0,0,4;", 0, 5);
        year("s8;w0,5;m0,0,5;", 1, 5);
    }

    private static void grips() {
        check.part("promise 8, GRIPS");
        year("s3;w2,9;m3,2,6;", 2, 9);
        // SPEED 1, then -1
        year("s3;w2,9;m3,2,5;", 1, 8);
        year("s4;w2,9;m3,2,8;", 1, 8);
        year("s4;w2,9;m3,2,9;", 3, 9);
        year("s3;w2,4;m0,2,3;", 1, 3);
        year("s3;w2,4;m2,2,3;", 1, 3);
        year("s3;w2,4;m1,2,3;", 1, 3);
    }

    private static void turnsInOrder() {
        check.part("promise 8, order");
        BannisterCabinet x = check.laid("s5;w3,1;m0,3,0;m0,3,0;");
        x.pass(1);
        check.due("minister(0, 1)", x.minister(0, 1), 2);
        check.due("minister(1, 1)", x.minister(1, 1), 4);
        check.due("step(3, 0)", x.step(3, 0), 0);
        x = check.laid("s5;w3,2;m0,3,1;m0,3,0;m0,4,0;");
        x.pass(1);
        check.due("minister(0, 1)", x.minister(0, 1), 2);
        check.due("minister(1, 1)", x.minister(1, 1), 2);
        check.due("minister(2, 1)", x.minister(2, 1), 4);
        check.due("count(4)", x.count(4), 0);
    }

    private static void reigns() {
        check.part("promise 8, reigns");
        BannisterCabinet x = check.laid("s5;f90;m0,0,9;m0,2,9;m0,2,9;");
        check.due("pass(1)", x.pass(1), 1);
        check.due("minister(1, 3)", x.minister(1, 3), 1);
        check.due("minister(2, 3)", x.minister(2, 3), 0);
        check.due("count(3)", x.count(3), 93);
        check.due("pass(1)", x.pass(1), 2);
        check.due("minister(1, 3)", x.minister(1, 3), 2);
        check.due("pass(1)", x.pass(1), 3);
        check.due("minister(1, 3)", x.minister(1, 3), 3);
        check.due("count(3)", x.count(3), 99);
        // now the first is at the TOP as well
        check.due("pass(1)", x.pass(1), 4);
        check.due("minister(0, 3)", x.minister(0, 3), 1);
        check.due("minister(1, 3)", x.minister(1, 3), 3);
        check.due("count(3)", x.count(3), 99);
        x = check.laid("s5;f97;m0,0,9;");
        x.pass(1);
        check.due("count(3)", x.count(3), 99);
    }

    private static void passEdges() {
        check.part("promise 8, edges");
        BannisterCabinet x = check.laid("s3;m0,0,0;");
        for (int n : new int[] {0, -1, 41, Integer.MAX_VALUE, Integer.MIN_VALUE}) {
            check.due("pass(" + n + ")", x.pass(n), Check.BAD);
        }
        check.due("count(6)", x.count(6), 0);
        for (int year = 40; year <= 960; year += 40) {
            check.due("pass(40)", x.pass(40), year);
        }
        check.due("pass(40)", x.pass(40), Check.NO);
        check.due("pass(41)", x.pass(41), Check.BAD);
        check.due("count(2)", x.count(2), 960);
        check.due("pass(38)", x.pass(38), 998);
        check.due("pass(2)", x.pass(2), Check.NO);
        check.due("pass(1)", x.pass(1), 999);
        check.due("pass(1)", x.pass(1), Check.NO);
        check.due("behind(40, 0, 2)", x.behind(40, 0, 2), 1039);
        check.due("undo()", x.undo(), 7);
        check.due("count(2)", x.count(2), 998);
    }

    private static void wax() {
        check.part("promise 9");
        BannisterCabinet x = check.laid("s4;w3,8;f3;m0,0,9;");
        check.due("wax(3)", x.wax(3), 9);
        check.due("count(3)", x.count(3), 2);
        check.due("wax(3)", x.wax(3), Check.NO);
        check.due("count(3)", x.count(3), 2);
        check.due("count(6)", x.count(6), 1);
        check.due("wax(0)", x.wax(0), 1);
        check.due("wax(0)", x.wax(0), 2);
        check.due("count(3)", x.count(3), 0);
        check.due("wax(0)", x.wax(0), Check.NO);
        check.due("step(0, 0)", x.step(0, 0), 2);
        for (int s : new int[] {-1, 4, 16, Integer.MIN_VALUE}) {
            check.due("wax(" + s + ")", x.wax(s), Check.BAD);
        }
    }

    private static void sand() {
        check.part("promise 10");
        BannisterCabinet x = check.laid("s4;w3,8;w2,1;w1,2;f7;m0,0,9;");
        check.due("sand(3)", x.sand(3), 6);
        check.due("count(3)", x.count(3), 5);
        check.due("sand(2)", x.sand(2), 0);
        check.due("count(3)", x.count(3), 3);
        check.due("sand(2)", x.sand(2), Check.NO);
        check.due("sand(1)", x.sand(1), 0);
        check.due("count(3)", x.count(3), 1);
        check.due("sand(3)", x.sand(3), Check.NO);
        check.due("count(3)", x.count(3), 1);
        check.due("step(3, 0)", x.step(3, 0), 6);
        check.due("count(6)", x.count(6), 3);
        BannisterCabinet poor = check.laid("s4;w3,8;f2;m0,0,9;");
        check.due("sand(3) for the last FUNDS", poor.sand(3), 6);
        check.due("count(3)", poor.count(3), 0);
        for (int s : new int[] {-1, 4, Integer.MAX_VALUE}) {
            check.due("sand(" + s + ")", x.sand(s), Check.BAD);
        }
    }

    private static void help() {
        check.part("promise 11");
        BannisterCabinet x = check.laid("s4;f0;w3,5;m0,3,9;m1,0,0;");
        check.due("help(1)", x.help(1), Check.NO);
        check.due("count(6)", x.count(6), 0);
        check.due("help(0)", x.help(0), 3);
        check.due("minister(0, 1)", x.minister(0, 1), 0);
        check.due("step(3, 0)", x.step(3, 0), 5);
        check.due("count(3)", x.count(3), 0);
        check.due("help(0)", x.help(0), Check.NO);
        check.due("count(6)", x.count(6), 1);
        for (int m : new int[] {-1, 2, 7, Integer.MAX_VALUE}) {
            check.due("help(" + m + ")", x.help(m), Check.BAD);
        }
    }

    private static void undo() {
        check.part("promise 12");
        BannisterCabinet x = check.laid("s4;w3,5;f5;m0,3,4;m0,1,9;");
        x.wax(1);
        x.sand(3);
        x.help(0);
        x.pass(7);
        x.seen(0, 3);
        x.write(65);
        check.due("undo()", x.undo(), 3);
        check.due("count(2)", x.count(2), 0);
        check.due("count(3)", x.count(3), 2);
        check.due("minister(1, 3)", x.minister(1, 3), 0);
        check.due("minister(0, 1)", x.minister(0, 1), 0);
        check.due("undo()", x.undo(), 2);
        check.due("minister(0, 1)", x.minister(0, 1), 3);
        check.due("undo()", x.undo(), 1);
        check.due("step(3, 0)", x.step(3, 0), 5);
        check.due("count(3)", x.count(3), 4);
        check.due("undo()", x.undo(), 0);
        check.due("step(1, 0)", x.step(1, 0), 0);
        check.due("count(3)", x.count(3), 5);
        check.due("undo()", x.undo(), Check.NO);
        check.due("count(5)", x.count(5), 1);
        check.due("count(8)", x.count(8), 26);
    }

    private static void undoRing() {
        check.part("promise 12, the last 8");
        BannisterCabinet x = check.laid("s4;f50;m0,3,4;");
        for (int i = 1; i <= 9; i++) {
            check.due("wax(0)", x.wax(0), i);
            check.due("count(6)", x.count(6), Math.min(i, 8));
        }
        x.wax(1);
        x.wax(1);
        check.due("undo()", x.undo(), 7);
        check.due("step(1, 0)", x.step(1, 0), 1);
        x.wax(2);
        check.due("count(6)", x.count(6), 8);
        for (int left = 7; left >= 0; left--) {
            check.due("undo()", x.undo(), left);
        }
        check.due("undo()", x.undo(), Check.NO);
        check.due("step(0, 0)", x.step(0, 0), 3);
        check.due("step(1, 0)", x.step(1, 0), 0);
        check.due("step(2, 0)", x.step(2, 0), 0);
        check.due("count(3)", x.count(3), 47);
    }

    private static void keepAndBack() {
        check.part("promises 27 and 28");
        BannisterCabinet x = check.laid("s4;w3,5;f50;m0,3,4;m0,1,9;");
        check.due("back()", x.back(), Check.NO);
        x.wax(0);
        check.due("keep()", x.keep(), 1);
        check.due("count(6)", x.count(6), 1);
        x.pass(4);
        x.wax(0);
        check.due("keep()", x.keep(), 2);
        check.due("keep()", x.keep(), Check.FULL);
        check.due("count(7)", x.count(7), 2);
        x.help(0);
        x.pass(2);
        x.seen(1, 2);
        x.write(66);
        check.due("back()", x.back(), 1);
        check.due("count(2)", x.count(2), 4);
        check.due("step(0, 0)", x.step(0, 0), 2);
        check.due("count(3)", x.count(3), 60);
        check.due("minister(0, 3)", x.minister(0, 3), 4);
        check.due("undo()", x.undo(), Check.NO);
        check.due("count(5)", x.count(5), 1);
        check.due("count(8)", x.count(8), 27);
        x.wax(1);
        check.due("keep()", x.keep(), 2);
        x.wax(1);
        check.due("back()", x.back(), 1);
        check.due("step(1, 0)", x.step(1, 0), 1);
        check.due("count(6)", x.count(6), 0);
        check.due("back()", x.back(), 0);
        check.due("count(2)", x.count(2), 0);
        check.due("step(0, 0)", x.step(0, 0), 1);
        check.due("minister(0, 1)", x.minister(0, 1), 3);
        check.due("minister(0, 3)", x.minister(0, 3), 0);
        check.due("count(3)", x.count(3), 49);
        check.due("back()", x.back(), Check.NO);
        check.due("step(0, 0)", x.step(0, 0), 1);
    }

    private static void count() {
        check.part("promise 29");
        BannisterCabinet x = check.laid("s7;w3,5;w6,9;f50;m0,3,4;m0,1,9;m2,6,9;");
        x.wax(0);
        x.pass(2);
        x.keep();
        x.seen(1, 1);
        x.seen(1, 2);
        int[] counts = {3, 7, 2, 55, 14, 2, 2, 1, 38};
        for (int what = 0; what < counts.length; what++) {
            check.due("count(" + what + ")", x.count(what), counts[what]);
        }
        for (int what : new int[] {-1, 9, Integer.MAX_VALUE, Integer.MIN_VALUE}) {
            check.due("count(" + what + ")", x.count(what), Check.BAD);
        }
    }
}
