/** Compares answers with what is due and tells each wrong one with the document's sentence. */
final class Due {
    private static String sentence = "no sentence";
    private static int rows = 1;
    private static int wrong = 0;

    private Due() {
    }

    /** The sentence that the next rows belong to. */
    static void sentence(String words) {
        closeSentence();
        sentence = words;
        rows = 0;
    }

    static void is(String what, String got, String want) {
        rows++;
        if (!got.equals(want)) {
            wrong++;
            System.out.println(sentence + " -- " + what + ": answered " + got + ", due is " + want);
        }
    }

    static void is(String what, long got, long want) {
        is(what, Long.toString(got), Long.toString(want));
    }

    static void is(String what, boolean got, boolean want) {
        is(what, Boolean.toString(got), Boolean.toString(want));
    }

    /** Ends the test, with exit code 1 when an answer was wrong. */
    static void end() {
        closeSentence();
        System.out.println(wrong == 0 ? "all answers are as due" : wrong + " answers are not as due");
        if (wrong != 0) {
            System.exit(1);
        }
    }

    /** A sentence without a row would look tested. */
    private static void closeSentence() {
        if (rows == 0) {
            wrong++;
            System.out.println(sentence + " -- has no row");
        }
    }
}
