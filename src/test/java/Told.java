import java.io.IOException;
import java.util.LinkedHashSet;
import java.util.List;
import java.util.Set;

/** Tests of the document sentence by sentence: each names its promise and the words that it holds to. */
final class Told {
    /** Ways on from any place; what a refused call had changed without a trace in count() shows in one of them. */
    private static final String[] WAYS_ON = {
        "B; G; STATE; ADDRESS; LINES; SPEED; POINT; LOCKED; NOTES; WELL; TO_BE_ERASED; TORN; TICKS; HEAT; TEXT;"
            + "NEXT; MORE; FILLED; IN_WINDOW; contents_are(?); torn_are(?); latest_are(?); later_are(?); word_is(?)",
        "WAKE(0); WAKE(0); WAKE(0); STATE; NAME(0); ADDRESS(0); STATE",
        "power(1); WAKE(0); WAKE(0); WAKE(0); STATE; NAME(0)",
        "SEND_MANY(0); MORE; get(); get(); NEXT",
        "TO(2); NOTES; ERASE(0); NOTES; TO_BE_ERASED",
        "ERASE(0); NOTES; TO_BE_ERASED; tick(1); power(0); torn_are(?)",
        "HOW_MANY(0); NOTES; STATUS(1)",
        "get(); get(); STATE; NEXT; MORE",
        "fits(7); fits(8); fits(9); STATE; later_are(?); NEXT; MORE; NOTES",
        "tick(1); later_are(?); TO_BE_ERASED; power(0); torn_are(?); WELL; latest_are(?)",
        "tick(3); STATE; later_are(?); contents_are(?); latest_are(?); WELL; TO_BE_ERASED",
        "LOCK(1); word_is(?); LOCKED; NOTES; LOCK(4); LOCKED; LOCK(0); LOCKED; LOCK(2); word_is(?)",
        "LOCK(0); LOCKED; NOTES; LOCK(8); STATE; TO_BE_ERASED",
        "write(122); wipe(); warm(3)",
        "RESET(0); STATE; LOCKED; NOTES; torn_are(?); WAKE(0); WAKE(0); WAKE(0); NAME(0)",
        "tune(); POINT; NOTES"
    };

    private final Due due = new Due("Sentence by sentence");
    private final Document document;
    private final Set<String> names = new LinkedHashSet<>();

    Told() throws IOException {
        document = new Document();
    }

    /** What comes behind this is a test of these words, as they stand in the promise or above the promises. */
    void sentence(String promise, String words) {
        String name = promise + ": \"" + words + "\"";
        names.add(name);
        due.sentence(name);
        due.same("it stands in the document:", document.name(promise, words) ? 1 : 0, 1);
    }

    /** Words from the first to the last of these that ask for nothing, so no test names them. */
    void asksForNothing(String heading, String first, String last) {
        document.pass(heading, first, last);
    }

    /** A new card without power. */
    Run card() {
        return new Run(due);
    }

    /** A card of eight BLOCKS by three, CHOSEN, with POINT 3. */
    Run small() {
        return card().run("make(8, 3, 0, 7); toChosen()");
    }

    /** A card of 32 BLOCKS by four, CHOSEN, with POINT 3. */
    Run chosen() {
        return card().run("toChosen()");
    }

    Run inState(int state) {
        return card().run(wayTo(state));
    }

    static String wayTo(int state) {
        switch (state) {
            case 0: return "make(8, 3, 2, 7); power(1)";
            case 1: return "make(8, 3, 2, 7); toReady()";
            case 2: return "make(8, 3, 2, 7); toReady(); NAME(0)";
            case 3: return "make(8, 3, 2, 7); toStandby()";
            case 4: return "make(8, 3, 2, 7); toChosen()";
            case 5: return "make(8, 3, 2, 7); toChosen(); SEND_MANY(0)";
            case 6: return "make(8, 3, 2, 7); toChosen(); TAKE_MANY(0)";
            case 7: return "make(8, 3, 2, 7); toChosen(); TAKE_ONE(0); fits(1)";
            default: return "make(8, 3, 2, 7)";
        }
    }

    void same(String what, long got, long want) {
        due.same(what, got, want);
    }

    /** Behind the way, the call has its answer and no way on tells that it was there. */
    void changesNothing(String way, String call) {
        for (String on : WAYS_ON) {
            List<String> without = card().run(way).run(on).answers();
            Run with = card().run(way);
            with.run(call);
            with.run(on);
            String[] asDue = without.toArray(new String[0]);
            String[] seen = with.answers().toArray(new String[0]);
            int steps = (int) on.chars().filter(c -> c == ';').count() + 1;
            for (int i = 1; i <= Math.min(steps, asDue.length); i++) {
                due.same(way + "; " + call + "; " + on + "\n    changed by " + call,
                    seen[seen.length - i], asDue[asDue.length - i]);
            }
        }
    }

    /** Every sentence that has a test, a line each. */
    void names() {
        names.forEach(System.out::println);
    }

    void end() {
        due.sentence("");
        for (String words : document.unnamed()) {
            due.same("named by no test: " + words, 0, 1);
        }
        due.end();
    }
}
