/** Counts and prints the answers that are not the ones that are due. */
final class Check {
    private final String test;
    private String sentence = "";
    private int checkedBefore = -1;
    private int wrong = 0;
    private int checked = 0;

    Check(String test) {
        this.test = test;
    }

    /** The answers that follow, up to the next sentence, are about this sentence of the document. */
    void says(String next) {
        endSentence();
        sentence = " [" + next + "]";
        checkedBefore = checked;
    }

    /** A sentence about which nothing was asked is a test that forgot to test. */
    private void endSentence() {
        if (checkedBefore == checked) {
            wrong++;
            System.out.println(test + sentence + ": nothing was asked");
        }
    }

    void due(String what, long got, long want) {
        tell(what, String.valueOf(got), String.valueOf(want));
    }

    void due(String what, boolean got, boolean want) {
        tell(what, String.valueOf(got), String.valueOf(want));
    }

    void tell(String what, String got, String want) {
        checked++;
        if (!got.equals(want)) {
            wrong++;
            System.out.println(test + sentence + ": " + what + ": answered " + got + ", due is " + want);
        }
    }

    /** The very class counts, not one that it extends. */
    void dueThrow(String what, Class<? extends RuntimeException> want, Runnable call) {
        String got = "nothing";
        try {
            call.run();
        } catch (RuntimeException e) {
            got = e.getClass().getName();
        }
        tell(what, got, want.getName());
    }

    void end() {
        endSentence();
        System.out.println(test + ": " + checked + " answers, " + wrong + " wrong");
        if (wrong != 0 || checked == 0) {
            System.exit(1);
        }
    }
}
