import java.lang.reflect.InvocationTargetException;
import java.lang.reflect.Method;
import java.util.Arrays;
import java.util.Comparator;
import java.util.function.Supplier;
import java.util.function.ToIntFunction;

/** Counts answers that are as due and prints those that are not. */
final class Check {
    static final int BAD = BannisterCabinet.BAD, NO = BannisterCabinet.NO;
    static final int FULL = BannisterCabinet.FULL, NONE = BannisterCabinet.NONE;

    private int passed = 0;
    private int failed = 0;
    private String part = "";

    /** Says which part the next answers belong to. */
    void part(String name) {
        part = name;
    }

    /** Runs each test of that class that is for a sentence of the document; one that looks at nothing fails. */
    void sentencesOf(Class<?> tests) throws IllegalAccessException {
        Method[] methods = tests.getDeclaredMethods();
        Arrays.sort(methods, Comparator.comparing(Method::getName));
        for (Method method : methods) {
            Sentence sentence = method.getAnnotation(Sentence.class);
            if (sentence != null) {
                part(method.getName() + " (" + sentence.value() + ")");
                run(method);
            }
        }
    }

    private void run(Method method) throws IllegalAccessException {
        int before = passed + failed;
        try {
            method.invoke(null);
        } catch (InvocationTargetException thrown) {
            failed++;
            System.out.println(part + ": threw " + thrown.getCause());
        }
        if (passed + failed == before) {
            failed++;
            System.out.println(part + ": nothing was looked at");
        }
    }

    void due(String call, int got, int want) {
        if (got == want) {
            passed++;
        } else {
            failed++;
            System.out.println(part + ": " + call + " answered " + got + ", due is " + want);
        }
    }

    /** A call that is refused: its answer, and that all stands as for a twin that was never asked. */
    void refused(String call, Supplier<BannisterCabinet> maker, ToIntFunction<BannisterCabinet> ask, int want) {
        BannisterCabinet asked = maker.get();
        due(call, ask.applyAsInt(asked), want);
        unchanged(call, asked, maker.get());
    }

    /** That two stand alike; neither is of use for anything else behind this. */
    void unchanged(String call, BannisterCabinet asked, BannisterCabinet twin) {
        String got = Picture.of(asked);
        String want = Picture.of(twin);
        if (got.equals(want)) {
            passed++;
        } else {
            failed++;
            System.out.println(part + ": behind " + call + " there stands\n" + got + "due is\n" + want);
        }
    }

    /** Ends the test's program: with exit code 1 if an answer was not as due. */
    void end() {
        System.out.println(passed + " passed, " + failed + " failed");
        if (failed > 0) {
            System.exit(1);
        }
    }

    /** Numbers that are none of those from least to most: the next ones, and some that a wrap-around brings to them. */
    static int[] outside(int least, int most) {
        return new int[] {least - 1, most + 1, least - 256, least + 65536, Integer.MIN_VALUE, Integer.MAX_VALUE};
    }

    static BannisterCabinet written(String text) {
        BannisterCabinet cabinet = new BannisterCabinet();
        write(cabinet, text);
        return cabinet;
    }

    static void write(BannisterCabinet cabinet, String text) {
        for (int i = 0; i < text.length(); i++) {
            cabinet.write(text.charAt(i));
        }
    }

    /** A cabinet of that TEXT, laid if it can be. */
    static BannisterCabinet palace(String text) {
        BannisterCabinet cabinet = written(text);
        cabinet.lay();
        return cabinet;
    }

    /** A cabinet of that TEXT, which is laid. */
    BannisterCabinet laid(String text) {
        BannisterCabinet cabinet = written(text);
        int ministers = text.length() - text.replace("m", "").length();
        due("lay() of " + text, cabinet.lay(), ministers);
        return cabinet;
    }

    /** A small one in YEAR 3 on which much has been done: 12 letters, 3 that can be UNDONE, 1 KEPT, 2 SEEN. */
    static BannisterCabinet busy() {
        BannisterCabinet cabinet = palace("s4;w3,6;w1,2;k1;t2;f9;m0,3,4;m2,1,5;");
        cabinet.wipe();
        cabinet.pass(2);
        cabinet.keep();
        cabinet.wax(0);
        cabinet.pass(1);
        cabinet.seen(0, 3);
        cabinet.seen(1, 3);
        write(cabinet, "s5;m1,2,3;x;");
        return cabinet;
    }
}
