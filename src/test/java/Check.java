/** Counts answers that are as due and prints those that are not. */
final class Check {
    static final int BAD = BannisterCabinet.BAD, NO = BannisterCabinet.NO;
    static final int FULL = BannisterCabinet.FULL, NONE = BannisterCabinet.NONE;

    private int passed = 0;
    private int failed = 0;
    private String part = "";

    /** Says which part the next answers belong to. */
    void part(String name) {
        part = name;
    }

    void due(String call, int got, int want) {
        if (got == want) {
            passed++;
        } else {
            failed++;
            System.out.println(part + ": " + call + " answered " + got + ", due is " + want);
        }
    }

    /** Ends the test's program: with exit code 1 if an answer was not as due. */
    void end() {
        System.out.println(passed + " passed, " + failed + " failed");
        if (failed > 0) {
            System.exit(1);
        }
    }

    static BannisterCabinet written(String text) {
        BannisterCabinet cabinet = new BannisterCabinet();
        write(cabinet, text);
        return cabinet;
    }

    static void write(BannisterCabinet cabinet, String text) {
        for (int i = 0; i < text.length(); i++) {
            cabinet.write(text.charAt(i));
        }
    }

    /** A cabinet of that TEXT, which is laid. */
    BannisterCabinet laid(String text) {
        BannisterCabinet cabinet = written(text);
        int ministers = text.length() - text.replace("m", "").length();
        due("lay() of " + text, cabinet.lay(), ministers);
        return cabinet;
    }
}
