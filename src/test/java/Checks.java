/** Counts the answers that are not as due, and ends the test accordingly. */
final class Checks {
    private int all;
    private int wrong;

    void due(String what, long got, long want) {
        all++;
        if (got != want) {
            wrong++;
            System.out.println(what + " answered " + got + ", due is " + want);
        }
    }

    boolean hasWrong() {
        return wrong != 0;
    }

    void finish() {
        System.out.println(all + " answers, " + wrong + " not as due");
        if (wrong != 0 || all == 0) {
            System.exit(1);
        }
    }
}
