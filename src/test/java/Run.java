import java.util.ArrayList;
import java.util.Arrays;
import java.util.List;
import java.util.Map;
import java.util.regex.Matcher;
import java.util.regex.Pattern;

/**
 * One card and calls on it, written as a text: "FROM(5) = 0; TO(4) = NO; NOTES = 8". A call is a method
 * of BlockCard, a COMMAND by its word (told with the CHECK that fits), a word of COUNTS, or one of the
 * short ways in aid(). Without a "=" its answer is not looked at.
 */
final class Run {
    private static final int MOST_CALLS = 512, MOST_BLOCKS = 64;
    private static final Pattern CALL = Pattern.compile("(\\w+)(?:\\(([^)]*)\\))?(?:\\s*=\\s*(.+))?");
    private static final Map<String, Integer> COMMANDS = Map.ofEntries(
        Map.entry("RESET", 0), Map.entry("WAKE", 1), Map.entry("NAME", 2), Map.entry("ADDRESS", 3),
        Map.entry("SWITCH", 6), Map.entry("CHOOSE", 7), Map.entry("STOP", 12), Map.entry("STATUS", 13),
        Map.entry("SEND_ONE", 17), Map.entry("SEND_MANY", 18), Map.entry("TUNE", 21), Map.entry("HOW_MANY", 22),
        Map.entry("COUNT", 23), Map.entry("TAKE_ONE", 24), Map.entry("TAKE_MANY", 25), Map.entry("FROM", 32),
        Map.entry("TO", 33), Map.entry("ERASE", 38), Map.entry("LOCK", 42));
    private static final List<String> COUNTS = List.of("B", "G", "STATE", "ADDRESS", "LINES", "SPEED", "POINT",
        "LOCKED", "NOTES", "WELL", "TO_BE_ERASED", "TORN", "TICKS", "HEAT", "TEXT", "NEXT", "MORE", "FILLED",
        "IN_WINDOW");
    private static final Map<String, Integer> NUMBERS = Map.ofEntries(
        Map.entry("BAD", -1), Map.entry("NO", -2), Map.entry("FULL", -3), Map.entry("NONE", -4),
        Map.entry("IDLE", 0), Map.entry("READY", 1), Map.entry("NAMED", 2), Map.entry("STANDBY", 3),
        Map.entry("CHOSEN", 4), Map.entry("SENDING", 5), Map.entry("TAKING", 6), Map.entry("WRITING", 7),
        Map.entry("LEAST", Integer.MIN_VALUE), Map.entry("MOST", Integer.MAX_VALUE));

    private final Due due;
    private final BlockCard card = new BlockCard();
    private final StringBuilder told = new StringBuilder();
    private final List<String> answers = new ArrayList<>();
    private int calls = 0;

    Run(Due due) {
        this.due = due;
    }

    Run run(String script) {
        for (String part : script.split("[;\n]")) {
            if (!part.isBlank()) {
                step(part.trim());
            }
        }
        due.same(told + "\n    calls beyond those that are promised:", Math.max(0, calls - MOST_CALLS), 0);
        return this;
    }

    Run times(int n, String script) {
        for (int i = 0; i < n; i++) {
            run(script);
        }
        return this;
    }

    /** Every answer so far, also those that were not looked at. */
    List<String> answers() {
        return answers;
    }

    private void step(String step) {
        Matcher m = CALL.matcher(step);
        if (!m.matches()) {
            throw new IllegalStateException("no call: " + step);
        }
        String name = m.group(1);
        String inside = m.group(2);
        if (inside == null && !COUNTS.contains(name)) {
            throw new IllegalStateException("no word of COUNTS: " + step);
        }
        told.append(told.length() == 0 ? "" : "; ").append(step);
        if (inside != null && aid(name, inside)) {
            return;
        }
        int got = inside == null ? call("count", new int[] {COUNTS.indexOf(name)}) : call(name, numbers(inside));
        answers.add(step + " -> " + got);
        if (m.group(3) != null) {
            due.same(told + "\n    the last", got, sum(m.group(3)));
        }
    }

    /** No call may throw: one that does is a miss, and the run goes on. */
    private int call(String name, int[] a) {
        calls++;
        try {
            return answer(name, a);
        } catch (IndexOutOfBoundsException | ArithmeticException | NullPointerException e) {
            due.same(told + "\n    the last threw", e.toString(), "an answer");
            return Integer.MIN_VALUE;
        }
    }

    private int answer(String name, int[] a) {
        Integer command = COMMANDS.get(name);
        if (command != null) {
            return card.tell(command, a[0]);
        }
        switch (name) {
            case "make": return card.make(a[0], a[1], a[2], a[3]);
            case "power": return card.power(a[0]);
            case "warm": return card.warm(a[0]);
            case "write": return card.write(a[0]);
            case "wipe": return card.wipe();
            case "check": return card.check(a[0], a[1]);
            case "checkOf": return card.checkOf(a[0]);
            case "send": return card.send(a[0], a[1], a[2]);
            case "tell": return card.tell(a[0], a[1]);
            case "give": return card.give(a[0], a[1]);
            case "fits": return card.give(a[0], Checks.ofContent(a[0]));
            case "get": return card.get();
            case "tick": return card.tick(a[0]);
            case "tune": return card.tune();
            case "block": return card.block(a[0], a[1]);
            case "latest": return card.latest(a[0]);
            case "word": return card.word(a[0]);
            case "later": return card.later(a[0], a[1]);
            case "count": return card.count(a[0]);
            default: throw new IllegalStateException("no call: " + name);
        }
    }

    /** Short ways: several calls, or a look at a whole row. */
    private boolean aid(String name, String inside) {
        switch (name) {
            case "toReady": run("power(1)"); wake(); return true;
            case "toStandby": run("power(1)"); wake(); run("NAME(0); ADDRESS(0)"); return true;
            case "toChosen": run("toStandby(); CHOOSE(1); TUNE(3)"); return true;
            case "put": put(numbers(inside)); return true;
            case "erase": erase(numbers(inside)); return true;
            case "type": type(inside); return true;
            case "word_is": row("the WORD", letters(), inside); return true;
            case "latest_are": row("LATEST", latest(), inside); return true;
            case "later_are": row("what is LATER", later(), inside); return true;
            case "contents_are": row("the CONTENTS", blocks(0), inside); return true;
            case "torn_are": row("the TORN", blocks(1), inside); return true;
            default: return false;
        }
    }

    private void row(String what, String got, String want) {
        answers.add(what + " -> " + got);
        if (!want.equals("?")) {
            due.same(told + "\n    " + what, got, want);
        }
    }

    private void wake() {
        for (int i = 0; i < 10 && call("count", new int[] {2}) == 0; i++) {
            run("WAKE(0)");
        }
    }

    /** One BLOCK taken and written by one line; CHOSEN ahead of it and behind it. */
    private void put(int[] a) {
        run("TAKE_ONE(" + a[0] + "); fits(" + a[1] + "); tick(4)");
    }

    private void erase(int[] a) {
        run("FROM(" + a[0] + "); TO(" + a[1] + "); ERASE(0)");
    }

    private void type(String letters) {
        run("wipe()");
        for (char letter : letters.toCharArray()) {
            run("write(" + (int) letter + ")");
        }
    }

    private String letters() {
        StringBuilder all = new StringBuilder();
        for (int i = 0; i < call("word", new int[] {-1}); i++) {
            all.append((char) call("word", new int[] {i}));
        }
        return all.toString();
    }

    private String latest() {
        List<String> all = new ArrayList<>();
        for (int i = 0; i <= MOST_BLOCKS && call("latest", new int[] {i}) >= 0; i++) {
            all.add("" + call("latest", new int[] {i}));
        }
        return String.join(", ", all);
    }

    /** BLOCK, CONTENT, TICKS of each. */
    private String later() {
        List<String> all = new ArrayList<>();
        for (int i = 0; i < call("later", new int[] {-1, 0}); i++) {
            for (int what = 0; what < 3; what++) {
                all.add("" + call("later", new int[] {i, what}));
            }
        }
        return String.join(", ", all);
    }

    private String blocks(int what) {
        int blocks = call("count", new int[] {0});
        List<String> all = new ArrayList<>();
        for (int b = 0; b < blocks; b++) {
            int answer = call("block", new int[] {b, what});
            if (what == 0) {
                all.add("" + answer);
            } else if (answer == 1) {
                all.add("" + b);
            }
        }
        return String.join(", ", all);
    }

    private static int[] numbers(String inside) {
        if (inside.isBlank()) {
            return new int[0];
        }
        return Arrays.stream(inside.split(",")).mapToInt(Run::sum).toArray();
    }

    private static int sum(String text) {
        int sum = 0;
        for (String part : text.split("\\+")) {
            String word = part.trim();
            sum += NUMBERS.containsKey(word) ? NUMBERS.get(word) : Integer.parseInt(word);
        }
        return sum;
    }
}
