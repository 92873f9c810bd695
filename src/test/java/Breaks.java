import java.io.ByteArrayOutputStream;
import java.io.IOException;
import java.nio.charset.StandardCharsets;
import java.nio.file.Files;
import java.nio.file.Path;
import java.util.ArrayList;
import java.util.List;
import java.util.Set;
import java.util.TreeSet;
import java.util.stream.Collectors;
import javax.tools.ToolProvider;

/**
 * Breaks BlockCard.java in one place after the other, as src/test/breaks.txt tells, and looks whether
 * SentencesTest then fails and names the sentence that is broken. Run by .ci/breaks, beside .ci/run: it
 * takes a minute or two, and a change of the class may ask for a change of the list.
 */
public final class Breaks {
    private static final Path SOURCE = Path.of("src/main/java/BlockCard.java");
    private static final Path LIST = Path.of("src/test/breaks.txt");

    private record Break(int line, String sentence, List<String> from, List<String> to) {
    }

    private final String classes;
    private final Path room;
    private final List<String> source;

    private Breaks(String classes) throws IOException {
        this.classes = classes;
        room = Files.createTempDirectory("breaks");
        source = Files.readAllLines(SOURCE);
    }

    public static void main(String[] args) throws IOException {
        Breaks tool = new Breaks(args[0]);
        List<Break> all = read();
        List<String> faults = all.parallelStream().map(tool::fault).filter(fault -> !fault.isEmpty())
            .collect(Collectors.toCollection(ArrayList::new));
        faults.addAll(tool.unbroken(all));
        faults.forEach(System.out::println);
        System.out.println(all.size() + " breaks, " + faults.size() + " faults");
        System.exit(faults.isEmpty() ? 0 : 1);
    }

    private static List<Break> read() throws IOException {
        List<Break> all = new ArrayList<>();
        int number = 0;
        for (String line : Files.readAllLines(LIST)) {
            number++;
            if (line.startsWith("@ ")) {
                all.add(new Break(number, line.substring(2), new ArrayList<>(), new ArrayList<>()));
            } else if (line.startsWith("-")) {
                all.get(all.size() - 1).from().add(line.substring(1).trim());
            } else if (line.startsWith("+")) {
                all.get(all.size() - 1).to().add(line.substring(1).trim());
            }
        }
        return all;
    }

    /** What is wrong with this break, or with the test of its sentence; empty if the test sees it. */
    private String fault(Break one) {
        String where = LIST + ":" + one.line() + ": " + one.sentence();
        int at = place(one.from());
        if (at < 0) {
            return where + "\n    its lines are not found once in " + SOURCE;
        }
        List<String> broken = new ArrayList<>(source.subList(0, at));
        broken.addAll(one.to());
        broken.addAll(source.subList(at + one.from().size(), source.size()));
        try {
            Path own = Files.createDirectory(room.resolve("" + one.line()));
            Path file = Files.write(own.resolve("BlockCard.java"), broken);
            int compiled = ToolProvider.getSystemJavaCompiler().run(null, new ByteArrayOutputStream(),
                new ByteArrayOutputStream(), "-d", own.toString(), file.toString());
            if (compiled != 0) {
                return where + "\n    does not compile";
            }
            return told(own + java.io.File.pathSeparator + classes).contains(one.sentence()) ? ""
                : where + "\n    is not told to be broken";
        } catch (IOException e) {
            return where + "\n    " + e;
        }
    }

    private int place(List<String> from) {
        int found = -1;
        for (int at = 0; at + from.size() <= source.size(); at++) {
            boolean same = true;
            for (int i = 0; i < from.size() && same; i++) {
                same = source.get(at + i).trim().equals(from.get(i));
            }
            if (same && found >= 0) {
                return -1;
            }
            found = same ? at : found;
        }
        return found;
    }

    private static String told(String path, String... arguments) throws IOException {
        List<String> command = new ArrayList<>(List.of("java", "-XX:TieredStopAtLevel=1", "-cp", path, "SentencesTest"));
        command.addAll(List.of(arguments));
        Process run = new ProcessBuilder(command).redirectErrorStream(true).start();
        return new String(run.getInputStream().readAllBytes(), StandardCharsets.UTF_8);
    }

    /** Sentences that SentencesTest names and no break breaks; the signatures are the compiler's. */
    private List<String> unbroken(List<Break> all) throws IOException {
        Set<String> broken = all.stream().map(Break::sentence).collect(Collectors.toCollection(TreeSet::new));
        List<String> missing = new ArrayList<>();
        for (String sentence : told(classes, "names").split("\n")) {
            if (sentence.startsWith("Promise ") && !sentence.contains(": \"`") && !broken.contains(sentence)) {
                missing.add("no break of " + sentence);
            }
        }
        return missing;
    }
}
