import java.util.NoSuchElementException;

/** The answers of a test: those that are not as due are told with the sentence of the document that they belong to. */
final class Sheet {
    /** What told answers where it throws. */
    static final long THROWN = Long.MIN_VALUE;

    private String sentence = "";
    private int asked;
    private int wrong;

    void of(String ofSentence) { sentence = ofSentence; }

    void due(long got, long want) {
        asked++;
        if (got == want) return;
        wrong++;
        System.out.println(sentence + ", line " + line() + ": answered " + got + ", due is " + want);
    }

    void due(boolean got, boolean want) { due(got ? 1 : 0, want ? 1 : 0); }

    private static int line() {
        for (StackTraceElement e : new Throwable().getStackTrace())
            if (!e.getClassName().equals("Sheet")) return e.getLineNumber();
        return 0;
    }

    void end() {
        System.out.println(wrong == 0 ? asked + " answers are as due" : wrong + " of " + asked + " answers are not as due");
        if (wrong != 0 || asked == 0) System.exit(1);
    }

    static int rule(MadeWhere x, int web, int from, String text) {
        Tapes.feed(x, text);
        return x.protocol(web, from);
    }

    static long fact(MadeWhere x, int batch, int what) {
        try {
            return x.told(batch, what);
        } catch (NoSuchElementException e) {
            return THROWN;
        }
    }
}
