/** Compares answers with those that are due, prints each that is not, and ends with 1 if there was one. */
final class Due {
    private int wrong = 0;
    private String sentence = "";

    /** The document's words by which the answers that follow are due; they stand before each wrong one. */
    void says(String words) {
        sentence = "[" + words + "] ";
    }

    void is(String call, long got, long want) {
        if (got != want) {
            tell(call + " answered " + got + ", due is " + want);
        }
    }

    void is(String call, boolean got, boolean want) {
        if (got != want) {
            tell(call + " answered " + got + ", due is " + want);
        }
    }

    void is(String call, String got, String want) {
        if (!got.equals(want)) {
            tell(call + " answered\n" + got + "due is\n" + want);
        }
    }

    private void tell(String fault) {
        wrong++;
        System.out.println(sentence + fault);
    }

    void end() {
        System.out.println(wrong == 0 ? "all answers are as due" : wrong + " answers are not as due");
        if (wrong != 0) {
            System.exit(1);
        }
    }
}
