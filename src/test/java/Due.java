import java.util.HashMap;
import java.util.Map;

/** Holds answers against those that are due, and ends the run with 1 if one differed. */
final class Due {
    private static final int SHOWN = 40;
    // few of each sentence, so that every sentence that is broken is told
    private static final int SHOWN_OF_EACH = 3;
    private final String title;
    private final Map<String, Integer> misses = new HashMap<>();
    private String sentence = "";
    private int wrong = 0;
    private int seen = 0;

    Due(String title) {
        this.title = title;
    }

    /** What comes behind this is a test of this sentence. */
    void sentence(String words) {
        sentence = words;
    }

    void same(String call, long got, long want) {
        seen++;
        if (got != want) {
            miss(call + " answered " + got + ", due is " + want);
        }
    }

    void same(String call, String got, String want) {
        seen++;
        if (!got.equals(want)) {
            miss(call + " is\n  " + got + ", due is\n  " + want);
        }
    }

    private void miss(String line) {
        wrong++;
        int here = misses.merge(sentence, 1, Integer::sum);
        if (here <= (sentence.isEmpty() ? SHOWN : SHOWN_OF_EACH)) {
            System.out.println(title + ": " + sentence + (sentence.isEmpty() ? "" : "\n    ") + line);
        }
    }

    void end() {
        if (wrong > 0) {
            System.out.println(title + ": " + wrong + " of " + seen + " are not as due");
            System.exit(1);
        }
        System.out.println(title + ": all " + seen + " as due");
    }
}
