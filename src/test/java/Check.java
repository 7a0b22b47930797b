/** Compares answers with those that are due, and tells at the end whether all of them were. */
final class Check {
    private static final int SHOWN = 40;

    private final String test;
    private String promise = "";
    private int answers;
    private int wrong;

    Check(String test) {
        this.test = test;
    }

    void promise(int number, String about) {
        promise = "promise " + number + " (" + about + ")";
    }

    void about(String words) {
        promise = words;
    }

    void due(String call, long got, long want) {
        answers++;
        if (got != want) {
            report(call + " answered " + got + ", due is " + want);
        }
    }

    void holds(String claim, boolean held) {
        answers++;
        if (!held) {
            report(claim);
        }
    }

    boolean anyWrong() {
        return wrong > 0;
    }

    private void report(String words) {
        wrong++;
        if (wrong <= SHOWN) {
            System.out.println(test + ", " + promise + ": " + words);
        }
    }

    void end() {
        System.out.println(test + ": " + answers + " answers, " + wrong + " of them not as due");
        if (wrong > 0) {
            System.exit(1);
        }
    }
}
