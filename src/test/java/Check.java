/** Compares answers with those that are due, and tells the wrong ones. */
final class Check {
    private final String test;
    private String about = "";
    private int wrong;
    private int asked;

    Check(String test) {
        this.test = test;
    }

    /** The sentence of the document that the following answers are due by. */
    void about(String sentence) {
        about = "[" + sentence + "] ";
    }

    void due(String call, long got, long want) {
        asked++;
        if (got != want) {
            wrong++;
            System.out.println(test + ": " + about + call + " answered " + got + ", due is " + want);
        }
    }

    void due(String call, boolean got, boolean want) {
        due(call, got ? 1 : 0, want ? 1 : 0);
    }

    boolean allRight() {
        return wrong == 0;
    }

    /** Ends the test's program: with 1 if an answer was wrong, or if none was asked for. */
    void finish() {
        System.out.println(test + ": " + asked + " answers, " + wrong + " wrong");
        if (wrong != 0 || asked == 0) {
            System.exit(1);
        }
    }
}
