/** Counts the answers that are not the due ones; a test ends with finish(). */
final class Check {
    private static final int PRINTED_AT_MOST = 20;

    private int wrong = 0;
    private int asked = 0;
    private int printed = 0;

    /** Each part prints its own first wrong answers, so that one part's many don't hide another's. */
    void startPart() {
        printed = 0;
    }

    void due(String what, long got, long want) {
        asked++;
        if (got != want) {
            wrong++;
            printed++;
            if (printed <= PRINTED_AT_MOST) {
                System.out.println(what + " answered " + got + ", due is " + want);
            }
        }
    }

    void due(String what, boolean got, boolean want) {
        due(what, got ? 1 : 0, want ? 1 : 0);
    }

    void due(String what, String got, String want) {
        due(what + " (" + got + "; due is " + want + ")", got.equals(want), true);
    }

    int asked() {
        return asked;
    }

    boolean isWrong() {
        return wrong > 0;
    }

    void finish() {
        System.out.println(asked + " answers, " + wrong + " not as due");
        if (wrong > 0) {
            System.exit(1);
        }
    }
}
