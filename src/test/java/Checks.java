import java.util.ArrayList;
import java.util.List;

/** Counts the answers that are not as due, and ends the test accordingly. */
final class Checks {
    /** More than these of one saying tell nothing new. */
    private static final int MOST_TOLD = 20;

    private final List<String> sayings = new ArrayList<>();
    private int all;
    private int allBeforeSaying;
    private int wrong;
    private int wrongBeforeSaying;

    /** What follows is for these words of the document. */
    void says(String words) {
        endSaying();
        sayings.add(words);
        allBeforeSaying = all;
        wrongBeforeSaying = wrong;
    }

    private void endSaying() {
        if (!sayings.isEmpty() && all == allBeforeSaying) {
            fail("nothing is asked of");
        }
    }

    List<String> sayings() {
        return sayings;
    }

    void due(String what, long got, long want) {
        all++;
        if (got != want) {
            fail(what + " answered " + got + ", due is " + want);
        }
    }

    private void fail(String what) {
        wrong++;
        if (wrong - wrongBeforeSaying <= MOST_TOLD) {
            System.out.println((sayings.isEmpty() ? "" : "\"" + sayings.get(sayings.size() - 1) + "\": ") + what);
        }
    }

    boolean hasWrong() {
        return wrong != 0;
    }

    void finish() {
        endSaying();
        if (!sayings.isEmpty()) {
            System.out.print(sayings.size() + " sayings, ");
        }
        System.out.println(all + " answers, " + wrong + " not as due");
        if (wrong != 0 || all == 0) {
            System.exit(1);
        }
    }
}
