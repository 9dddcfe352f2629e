/** Counts the answers of one test that are not as due, and prints the first of them. */
final class Due {
    /** Enough to find the cause; a test with millions of answers would drown it. */
    private static final int PRINTED = 50;

    private int checked;
    private int wrong;
    private String sentence = "";

    /** Names the sentence of the document that the answers from here on are about. */
    void about(String words) {
        sentence = "[" + words + "] ";
    }

    void is(String call, long got, long want) {
        checked++;
        if (got != want) {
            wrong++;
            if (wrong <= PRINTED) {
                System.out.println(sentence + call + " answered " + got + ", due is " + want);
            }
        }
    }

    void is(String call, boolean got, boolean want) {
        is(call, got ? 1 : 0, want ? 1 : 0);
    }

    void yes(String call, boolean got) {
        is(call, got, true);
    }

    void no(String call, boolean got) {
        is(call, got, false);
    }

    /** Ends the test: exit code 1 when an answer was wrong, or when nothing was checked. */
    void end() {
        System.out.println(checked + " answers checked, " + wrong + " not as due");
        if (wrong != 0 || checked == 0) {
            System.exit(1);
        }
    }
}
