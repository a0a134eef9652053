/** Compares answers with those that are due, prints each wrong one, and ends the test by them. */
final class Check {
    private int wrong;
    private String sentence = "";

    /** The sentence of the document to which the answers from here on belong. */
    void about(String sentence) {
        this.sentence = sentence + ": ";
    }

    void due(String call, int got, int want) {
        due(call, Integer.valueOf(got), Integer.valueOf(want));
    }

    void due(String call, boolean got, boolean want) {
        due(call, Boolean.valueOf(got), Boolean.valueOf(want));
    }

    void due(String call, Object got, Object want) {
        if (!got.equals(want)) {
            wrong++;
            System.out.println(sentence + call + " answered " + got + ", due is " + want);
        }
    }

    boolean allDue() {
        return wrong == 0;
    }

    void end() {
        System.out.println(wrong == 0 ? "all answers are as due" : wrong + " answers are not as due");
        if (wrong != 0) {
            System.exit(1);
        }
    }
}
