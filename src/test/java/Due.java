/** Counts the answers that are not as due, and tells each one under the sentence that it breaks. */
final class Due {
    private static final int TOLD_AT_MOST = 40;
    private static final long MILLIS_AT_MOST = 300000;

    private static volatile String sentence = "";
    private static int asked = 0;
    private static int wrong = 0;

    static {
        Thread watch = new Thread(Due::stopWhatNeverEnds);
        watch.setDaemon(true);
        watch.start();
    }

    private Due() {
    }

    /** Names what the answers from here on are about; the sentence before must have had a test. */
    static void sentence(String text) {
        if (asked == 0 && !sentence.isEmpty()) {
            tell("no answer was asked for");
        }
        sentence = text;
        asked = 0;
    }

    static void is(String what, long got, long want) {
        asked++;
        if (got != want) {
            tell(what + " answered " + got + ", due is " + want);
        }
    }

    static void is(String what, boolean got, boolean want) {
        asked++;
        if (got != want) {
            tell(what + " answered " + got + ", due is " + want);
        }
    }

    static void is(String what, String got, String want) {
        asked++;
        if (!got.equals(want)) {
            tell(what + " gave [" + got + "], due is [" + want + "]");
        }
    }

    static int wrong() {
        return wrong;
    }

    /** Ends the test: with exit code 1 when an answer was wrong. */
    static void end() {
        sentence("");
        System.out.println(wrong == 0 ? "all answers are as due" : wrong + " answers are not as due");
        if (wrong != 0) {
            System.exit(1);
        }
    }

    /** A call that does not end is an answer that is not as due, too. */
    private static void stopWhatNeverEnds() {
        try {
            Thread.sleep(MILLIS_AT_MOST);
        } catch (InterruptedException e) {
            return;
        }
        System.out.println(sentence + ": a call does not end");
        Runtime.getRuntime().halt(1);
    }

    private static void tell(String text) {
        wrong++;
        if (wrong <= TOLD_AT_MOST) {
            System.out.println(sentence + ": " + text);
        }
    }
}
