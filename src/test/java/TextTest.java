/** Promises 1 to 5: a new object, THE TEXT, its FAULT, and laying it. */
public final class TextTest {
    private static final Check check = new Check();

    public static void main(String[] args) {
        newObject();
        write();
        wipe();
        fault();
        faultOfSteps();
        faultOfMinisters();
        lay();
        layNothing();
        check.end();
    }

    private static void newObject() {
        check.part("promise 1");
        BannisterCabinet x = new BannisterCabinet();
        int[] counts = {5, 10, 0, 20, 13, 0, 0, 0, 0, Check.BAD};
        for (int what = 0; what < counts.length; what++) {
            check.due("count(" + what + ")", x.count(what), counts[what]);
        }
        int[][] ministers = {{0, 9, 5, 0, 1}, {1, 6, 3, 0, 0}, {2, 8, 0, 0, 0}, {3, 4, 2, 0, 0}, {0, 1, 4, 0, 0}};
        for (int m = 0; m < ministers.length; m++) {
            for (int what = 0; what < 5; what++) {
                check.due("minister(" + m + ", " + what + ")", x.minister(m, what), ministers[m][what]);
            }
        }
        int[] wax = {0, 0, 0, 2, 0, 4, 1, 0, 0, 6};
        int[] on = {0, 1, 0, 0, 1, 0, 1, 0, 1, 1};
        for (int s = 0; s < wax.length; s++) {
            check.due("step(" + s + ", 0)", x.step(s, 0), wax[s]);
            check.due("step(" + s + ", 1)", x.step(s, 1), s == 2 ? 1 : 0);
            check.due("step(" + s + ", 2)", x.step(s, 2), s == 5 ? 1 : 0);
            check.due("step(" + s + ", 3)", x.step(s, 3), on[s]);
        }
        check.due("fault()", x.fault(), Check.NONE);
        check.due("undo()", x.undo(), Check.NO);
        check.due("back()", x.back(), Check.NO);
        check.due("forget()", x.forget(), 0);
        check.due("wipe()", x.wipe(), 0);
    }

    private static void write() {
        check.part("promise 2");
        BannisterCabinet x = new BannisterCabinet();
        for (int bad : new int[] {31, 127, 0, -1, 32 + 65536, 128, Integer.MAX_VALUE, Integer.MIN_VALUE}) {
            check.due("write(" + bad + ")", x.write(bad), Check.BAD);
        }
        check.due("count(8)", x.count(8), 0);
        check.due("write(32)", x.write(32), 1);
        check.due("write(126)", x.write(126), 2);
        for (int length = 3; length <= 200; length++) {
            check.due("write(65)", x.write(65), length);
        }
        check.due("write(65), the 201st", x.write(65), Check.FULL);
        check.due("write(31), the 201st", x.write(31), Check.BAD);
        check.due("count(8)", x.count(8), 200);
        check.due("wipe()", x.wipe(), 200);
        check.due("write(65)", x.write(65), 1);
    }

    private static void wipe() {
        check.part("promise 3");
        BannisterCabinet x = Check.written("zzz");
        check.due("wipe()", x.wipe(), 3);
        check.due("wipe()", x.wipe(), 0);
        check.due("fault()", x.fault(), Check.NONE);
        check.due("count(0)", x.count(0), 5);
        Check.write(x, "s5;m0,1,1;");
        check.due("lay()", x.lay(), 1);
        check.due("wipe()", x.wipe(), 10);
        check.due("count(1)", x.count(1), 5);
    }

    private static void faultAt(String text, int want) {
        check.due("fault() of '" + text + "'", Check.written(text).fault(), want);
    }

    private static void fault() {
        check.part("promise 4");
        String good = "s16;w15,9;w00,09;w15,0;k15;k15;t0;t0;f99;f0;m3,15,9;m0,0,0;m01,07,02;";
        faultAt(good, Check.NONE);
        faultAt(good + "w16,0;", good.length());
        faultAt("w9,0;", Check.NONE);
        faultAt("f1;w0,10;", 3);
        faultAt("f1;k10;", 3);
        faultAt("f1;t10;", 3);
        faultAt("f1;k9;t9;", Check.NONE);
        for (String bad : new String[] {
            "x1;", "S10;", "W1,1;", ";", " f1;", "1;", "f;", "f", "f1", "f1,", "f100;", "f001;", "f1,2;", "f 1;",
            "f-1;", "f1,;", "f,1;", "f,;", "w;", "w1;", "w1,;", "w,1;", "w1,1", "w1,1,1;", "w1,,1;", "w1.1;", "w1,001;",
            "w001,1;", "k;", "k1", "k1,1;", "k123;", "k:;", "k/;", "t;", "t1", "t1,1;", "m0,0;", "m0,0,0", "m0,0,0,0;",
            "m0,0,0,0,0;", "m4,0,0;", "m0,10,0;", "m0,0,10;", "m;", "s;", "s10", "s10,10;", "s010;", "~1;"}) {
            faultAt(bad, 0);
            faultAt("w3,4;" + bad + "f1;", bad.length() > 0 ? 5 : Check.NONE);
        }
        faultAt("f1;;", 3);
        faultAt("f1;x;y;", 3);
    }

    private static void faultOfSteps() {
        check.part("promise 4, STEPS");
        faultAt("s3;w2,1;", Check.NONE);
        faultAt("s3;w3,1;", 3);
        faultAt("s2;", 0);
        faultAt("s17;", 0);
        faultAt("s99;", 0);
        faultAt("s0;", 0);
        faultAt("s03;s16;", Check.NONE);
        faultAt("s16;s3;m0,3,0;", 7);
        faultAt("s3;s16;m0,15,0;", Check.NONE);
        faultAt("s3;s2;", 3);
        for (String item : new String[] {"w1,1;", "k1;", "t1;", "m0,1,1;", "f1;"}) {
            faultAt(item + "s10;", item.length());
            faultAt("s10;" + item + "s10;", 4 + item.length());
        }
    }

    private static void faultOfMinisters() {
        check.part("promise 4, MINISTERS");
        String seven = "m0,1,1;".repeat(7);
        faultAt(seven, Check.NONE);
        faultAt(seven + "f3;", Check.NONE);
        faultAt(seven + "f3;m0,1,1;", seven.length() + 3);
        String full = "s16;" + "w9,9;".repeat(39);
        faultAt(full + "x", 199);
        faultAt(full, Check.NONE);
    }

    private static void lay() {
        check.part("promise 5");
        BannisterCabinet x = new BannisterCabinet();
        x.wax(0);
        x.pass(3);
        x.keep();
        x.seen(0, 0);
        Check.write(x, "s4;s12;w3,7;w3,2;w11,9;k2;k2;t5;f7;f3;m2,3,8;m1,0,4;");
        check.due("lay()", x.lay(), 2);
        int[] counts = {2, 12, 0, 3, 11, 0, 0, 0, 52};
        for (int what = 0; what < counts.length; what++) {
            check.due("count(" + what + ")", x.count(what), counts[what]);
        }
        int[] first = {2, 3, 8, 0, 0};
        int[] second = {1, 0, 4, 0, 0};
        for (int what = 0; what < 5; what++) {
            check.due("minister(0, " + what + ")", x.minister(0, what), first[what]);
            check.due("minister(1, " + what + ")", x.minister(1, what), second[what]);
        }
        check.due("minister(2, 0)", x.minister(2, 0), Check.BAD);
        check.due("step(11, 0)", x.step(11, 0), 9);
        check.due("step(3, 0)", x.step(3, 0), 2);
        check.due("step(9, 0)", x.step(9, 0), 0);
        check.due("step(2, 1)", x.step(2, 1), 1);
        check.due("step(5, 2)", x.step(5, 2), 1);
        check.due("undo()", x.undo(), Check.NO);
        check.due("back()", x.back(), Check.NO);
        x.pass(5);
        check.due("lay() once more", x.lay(), 2);
        check.due("count(2)", x.count(2), 0);
        check.due("minister(0, 3)", x.minister(0, 3), 0);
        x.wipe();
        Check.write(x, "m0,0,0;");
        check.due("lay()", x.lay(), 1);
        check.due("count(1) without s", x.count(1), 10);
        check.due("count(3) without f", x.count(3), 20);
        check.due("count(4) without w", x.count(4), 0);
        check.due("step(2, 1) without k", x.step(2, 1), 0);
        check.due("step(5, 2) without t", x.step(5, 2), 0);
    }

    private static void layNothing() {
        check.part("promise 5, NO");
        BannisterCabinet x = new BannisterCabinet();
        x.wax(0);
        x.keep();
        x.seen(0, 0);
        check.due("lay() of nothing", x.lay(), Check.NO);
        Check.write(x, "s4;f1;");
        check.due("lay() without a MINISTER", x.lay(), Check.NO);
        Check.write(x, "m0,0,0;");
        Check.write(x, "z");
        check.due("lay() with a FAULT", x.lay(), Check.NO);
        check.due("fault()", x.fault(), 13);
        int[] counts = {5, 10, 0, 19, 14, 1, 1, 1, 14};
        for (int what = 0; what < counts.length; what++) {
            check.due("count(" + what + ")", x.count(what), counts[what]);
        }
    }
}
