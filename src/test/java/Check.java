/** Compares answers with those that are due, prints each wrong one, and ends the test by them. */
final class Check {
    private int wrong;

    void due(String call, int got, int want) {
        if (got != want) {
            wrong(call, String.valueOf(got), String.valueOf(want));
        }
    }

    void due(String call, boolean got, boolean want) {
        if (got != want) {
            wrong(call, String.valueOf(got), String.valueOf(want));
        }
    }

    private void wrong(String call, String got, String want) {
        wrong++;
        System.out.println(call + " answered " + got + ", due is " + want);
    }

    boolean allDue() {
        return wrong == 0;
    }

    void end() {
        System.out.println(wrong == 0 ? "all answers are as due" : wrong + " answers are not as due");
        if (wrong != 0) {
            System.exit(1);
        }
    }
}
