import java.io.IOException;
import java.lang.reflect.Method;
import java.lang.reflect.Modifier;
import java.nio.file.Files;
import java.nio.file.Path;
import java.util.Arrays;
import java.util.Map;
import java.util.Set;
import java.util.TreeSet;
import java.util.regex.Matcher;
import java.util.regex.Pattern;

/** The examples of README.md answer as README.md says, and its list of calls is the document's face. */
public final class ReadmeTest {
    private static final Due due = new Due("README.md");
    private static final Pattern EXAMPLE = Pattern.compile("(?s)```java\\n(.*?)```");
    private static final Pattern ROW = Pattern.compile("card\\.(\\w+)\\((.*)\\);\\s+// (-?\\d+|[A-Z]+)(?::.*)?");
    private static final Pattern CALL_INSIDE = Pattern.compile("card\\.(\\w+)\\(([^()]*)\\)");
    private static final Pattern LISTED = Pattern.compile("`(\\w+)\\(([^)]*)\\)`");
    private static final Map<String, Integer> WORDS = Map.of("BAD", BlockCard.BAD, "NO", BlockCard.NO,
        "FULL", BlockCard.FULL, "NONE", BlockCard.NONE);
    private static final int MOST_CALLS = 512;

    public static void main(String[] args) throws IOException, ReflectiveOperationException {
        String page = Files.readString(Path.of("README.md"));
        Matcher example = EXAMPLE.matcher(page);
        int examples = 0;
        while (example.find()) {
            examples++;
            runExample(examples, example.group(1));
        }
        due.same("examples", examples, 3);
        everyCallIsListed(page);
        everyAnswerIsListed(page);
        due.end();
    }

    private static void runExample(int number, String rows) throws ReflectiveOperationException {
        BlockCard card = new BlockCard();
        String[] lines = rows.split("\n");
        due.same("example " + number + " begins with a new card:", lines[0].startsWith("BlockCard card = new BlockCard();") ? 1 : 0, 1);
        due.same("example " + number + " is within what is promised:", 2 * lines.length <= MOST_CALLS ? 1 : 0, 1);
        for (int i = 1; i < lines.length; i++) {
            Matcher row = ROW.matcher(lines[i]);
            if (!row.matches()) {
                due.same("example " + number + " has a row without call and answer: " + lines[i], 0, 1);
                continue;
            }
            int got = call(card, row.group(1), withCallsInsideAnswered(card, row.group(2)));
            due.same("example " + number + ": " + lines[i], got, number(row.group(3)));
        }
    }

    private static String withCallsInsideAnswered(BlockCard card, String inside) throws ReflectiveOperationException {
        Matcher call = CALL_INSIDE.matcher(inside);
        if (!call.find()) {
            return inside;
        }
        return call.replaceFirst("" + call(card, call.group(1), call.group(2)));
    }

    private static int call(BlockCard card, String name, String inside) throws ReflectiveOperationException {
        Object[] numbers = inside.isBlank() ? new Object[0]
            : Arrays.stream(inside.split(",")).map(part -> number(part.trim())).toArray();
        for (Method method : BlockCard.class.getDeclaredMethods()) {
            if (method.getName().equals(name) && method.getParameterCount() == numbers.length) {
                return (Integer) method.invoke(card, numbers);
            }
        }
        throw new IllegalStateException("no call: " + name + "(" + inside + ")");
    }

    private static int number(String word) {
        return WORDS.containsKey(word) ? WORDS.get(word) : Integer.parseInt(word);
    }

    private static void everyCallIsListed(String page) {
        Set<String> face = new TreeSet<>();
        for (Method method : BlockCard.class.getDeclaredMethods()) {
            if (Modifier.isPublic(method.getModifiers())) {
                face.add(method.getName() + " of " + method.getParameterCount());
            }
        }
        Set<String> listed = new TreeSet<>();
        Matcher call = LISTED.matcher(page);
        while (call.find()) {
            int parameters = call.group(2).isBlank() ? 0 : call.group(2).split(",").length;
            listed.add(call.group(1) + " of " + parameters);
        }
        due.same("the calls listed", listed.toString(), face.toString());
    }

    private static void everyAnswerIsListed(String page) {
        WORDS.forEach((word, number) -> due.same(word + " is listed as " + number,
            page.contains("`" + word + "` (" + number + ")") ? 1 : 0, 1));
    }
}
