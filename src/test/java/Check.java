/**
 * Counts the answers of one test program and tells those that are not as due, with the document's
 * sentence that asks for them.
 */
final class Check {
    private static final int TOLD_AT_MOST = 50;

    private final String name;
    private String sentence = "";
    private int right = 0;
    private int wrong = 0;
    private int empty = 0;
    private int seenBefore = -1;

    Check(String name) {
        this.name = name;
    }

    /** What is checked from here on is due by this sentence: its promise's number and its words. */
    void by(String words) {
        countEmpty();
        sentence = words;
        seenBefore = right + wrong;
    }

    void due(String call, long got, long want) {
        due(call, Long.toString(got), Long.toString(want));
    }

    void due(String call, boolean got, boolean want) {
        due(call, Boolean.toString(got), Boolean.toString(want));
    }

    void due(String call, String got, String want) {
        if (got.equals(want)) {
            right++;
            return;
        }
        wrong++;
        if (wrong <= TOLD_AT_MOST) {
            System.out.println(name + ": " + call + " answered " + got + ", due is " + want
                + " (" + sentence + ")");
        }
    }

    void end() {
        countEmpty();
        System.out.println(name + ": " + right + " answers as due, " + wrong + " not");
        if (wrong != 0 || right == 0 || empty != 0) {
            System.exit(1);
        }
    }

    // A sentence without an answer behind it would look as if it were tested.
    private void countEmpty() {
        if (seenBefore == right + wrong) {
            empty++;
            System.out.println(name + ": nothing was asked for " + sentence);
        }
    }
}
