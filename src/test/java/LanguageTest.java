import java.io.IOException;
import java.lang.reflect.Field;
import java.lang.reflect.Method;
import java.lang.reflect.Modifier;
import java.nio.file.Files;
import java.nio.file.Path;
import java.util.ArrayList;
import java.util.List;
import java.util.Set;
import java.util.TreeSet;
import java.util.regex.Matcher;
import java.util.regex.Pattern;

/** The rules of LANGUAGE.md that can be seen from the source and the class. */
public final class LanguageTest {
    private static final Due due = new Due("The rules of LANGUAGE.md");
    private static final Set<String> FACE = new TreeSet<>(List.of("make", "power", "warm", "write", "wipe", "check",
        "checkOf", "send", "tell", "give", "get", "tick", "tune", "block", "latest", "word", "later", "count"));

    public static void main(String[] args) throws IOException {
        String source = Files.readString(Path.of("src/main/java/BlockCard.java"));
        String code = withoutComments(source);
        words(code);
        methodsAreShort(code);
        face();
        nestedClasses();
        due.end();
    }

    private static String withoutComments(String source) {
        return source.replaceAll("(?s)/\\*.*?\\*/", "").replaceAll("//[^\n]*", "");
    }

    private static void words(String code) {
        String[] forbidden = {"throw", "throws", "try", "catch", "finally", "synchronized", "assert", "volatile",
            "import", "package", "System", "Thread", "Random", "Exact", "native", "strictfp", "Object", "protected"};
        for (String word : forbidden) {
            due.same("'" + word + "' in the source", Pattern.compile("\\b\\w*" + word + "\\b").matcher(code).find() ? 1 : 0, 0);
        }
        due.same("a lambda or an arrow", code.contains("->") ? 1 : 0, 0);
        due.same("a method reference", code.contains("::") ? 1 : 0, 0);
        due.same("a static block", Pattern.compile("static\\s*\\{").matcher(code).find() ? 1 : 0, 0);
        due.same("a sign outside of ASCII", code.chars().filter(c -> c > 126).count(), 0);
        due.same("a loop without a bound", Pattern.compile("while\\s*\\(true\\)|for\\s*\\(;;\\)").matcher(code).find() ? 1 : 0, 0);
    }

    private static void methodsAreShort(String code) {
        Matcher heads = Pattern.compile("(?m)^ {4,8}[a-z][^;={\\n]*\\(([^)]*)\\) \\{$").matcher(code);
        int found = 0;
        while (heads.find()) {
            found++;
            int depth = 0;
            int lines = 0;
            for (int i = heads.end() - 1; i < code.length(); i++) {
                char c = code.charAt(i);
                depth += c == '{' ? 1 : c == '}' ? -1 : 0;
                lines += c == '\n' ? 1 : 0;
                if (depth == 0) {
                    break;
                }
            }
            due.same("more than 60 lines:" + heads.group(), lines > 60 ? lines : 0, 0);
            due.same("more than 7 parameters:" + heads.group(), heads.group(1).split(",").length > 7 ? 1 : 0, 0);
        }
        due.same("methods were found", found > 60 ? 1 : 0, 1);
    }

    private static void face() {
        Class<?> c = BlockCard.class;
        due.same("public and final", c.getModifiers() & (Modifier.PUBLIC | Modifier.FINAL), Modifier.PUBLIC | Modifier.FINAL);
        due.same("constructors", c.getDeclaredConstructors().length, 1);
        due.same("public constructors", c.getConstructors().length, 1);
        Set<String> seen = new TreeSet<>();
        for (Method m : c.getDeclaredMethods()) {
            if (Modifier.isPublic(m.getModifiers())) {
                seen.add(m.getName());
                due.same(m + " is of the document", FACE.contains(m.getName()) ? 1 : 0, 1);
                due.same(m + " answers int", m.getReturnType() == int.class ? 1 : 0, 1);
                due.same(m + " is not static", Modifier.isStatic(m.getModifiers()) ? 1 : 0, 0);
            } else if (!m.isSynthetic()) {
                due.same(m + " is private", Modifier.isPrivate(m.getModifiers()) ? 1 : 0, 1);
                due.same(m + " bears a public name", FACE.contains(m.getName()) ? 1 : 0, 0);
            }
        }
        due.same("the face", seen.toString(), FACE.toString());
        List<String> constants = new ArrayList<>();
        for (Field f : c.getDeclaredFields()) {
            if (Modifier.isPublic(f.getModifiers())) {
                constants.add(f.getName());
            } else {
                due.same(f + " is private", Modifier.isPrivate(f.getModifiers()) ? 1 : 0, 1);
            }
        }
        due.same("the public fields", constants.toString(), "[BAD, NO, FULL, NONE]");
        fields(c);
    }

    private static void nestedClasses() {
        Class<?>[] inside = BlockCard.class.getDeclaredClasses();
        due.same("classes", inside.length <= 11 ? 0 : inside.length, 0);
        for (Class<?> c : inside) {
            due.same(c + " is static", Modifier.isStatic(c.getModifiers()) ? 1 : 0, 1);
            due.same(c + " is public", Modifier.isPublic(c.getModifiers()) ? 1 : 0, 0);
            fields(c);
            for (Method m : c.getDeclaredMethods()) {
                due.same(m + " bears a public name", FACE.contains(m.getName()) ? 1 : 0, 0);
            }
        }
    }

    private static void fields(Class<?> c) {
        int own = 0;
        for (Field f : c.getDeclaredFields()) {
            if (Modifier.isStatic(f.getModifiers())) {
                due.same(f + " is final", Modifier.isFinal(f.getModifiers()) ? 1 : 0, 1);
            } else {
                own++;
            }
        }
        due.same(c + ": fields", own <= 20 ? 0 : own, 0);
    }
}
