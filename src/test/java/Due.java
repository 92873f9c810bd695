/** Holds answers against those that are due, and ends the run with 1 if one differed. */
final class Due {
    private static final int SHOWN = 40;
    private final String title;
    private int wrong = 0;
    private int seen = 0;

    Due(String title) {
        this.title = title;
    }

    void same(String call, long got, long want) {
        seen++;
        if (got != want) {
            miss(call + " answered " + got + ", due is " + want);
        }
    }

    void same(String call, String got, String want) {
        seen++;
        if (!got.equals(want)) {
            miss(call + " is\n  " + got + ", due is\n  " + want);
        }
    }

    private void miss(String line) {
        wrong++;
        if (wrong <= SHOWN) {
            System.out.println(title + ": " + line);
        }
    }

    void end() {
        if (wrong > 0) {
            System.out.println(title + ": " + wrong + " of " + seen + " are not as due");
            System.exit(1);
        }
        System.out.println(title + ": all " + seen + " as due");
    }
}
