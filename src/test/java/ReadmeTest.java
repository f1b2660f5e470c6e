import java.io.IOException;
import java.lang.reflect.Method;
import java.lang.reflect.Modifier;
import java.nio.file.Files;
import java.nio.file.Path;
import java.util.ArrayList;
import java.util.Comparator;
import java.util.List;
import java.util.TreeSet;
import java.util.regex.Matcher;
import java.util.regex.Pattern;
import java.util.stream.Collectors;
import java.util.stream.Stream;

/** What README.md says: its example, its commands, what each call may throw, and its list of tests. */
public final class ReadmeTest {
    private static final Check CHECK = new Check("ReadmeTest");
    private static final String TO_TEST = "bash .ci/run";
    private static final Path SOURCE = Path.of("src/main/java/Shortnumbers.java");
    private static final Pattern MADE = Pattern.compile("Shortnumbers x = new Shortnumbers\\(\\);");
    /** A call, what it answers, and perhaps a remark. */
    private static final Pattern ASKED =
            Pattern.compile("(x\\.\\w+\\(.*\\));\\s+// (throws \\w+|\"[^\"]*\"|-?\\w+)(?:: .*)?");
    private static final Pattern NAMED = Pattern.compile("`(\\w+)`");

    public static void main(String[] args) throws IOException, InterruptedException {
        List<String> lines = Files.readAllLines(Path.of("README.md"));
        Path folder = Files.createTempDirectory("readme");
        try {
            example(lines, folder);
        } finally {
            remove(folder);
        }
        CHECK.due("the tests are run by a file that can be run", Files.isExecutable(Path.of(".ci/run")), true);
        thrown(lines);
        tests(lines);
        CHECK.end();
    }

    /** The example becomes a program of the name that the commands give it, and the commands run it. */
    private static void example(List<String> lines, Path folder) throws IOException, InterruptedException {
        List<String> example = between(lines, "```java", "```");
        CHECK.due("whether an object is made first", MADE.matcher(example.get(0)).matches(), true);
        StringBuilder program = new StringBuilder("public final class Yours {\n"
                + "    private static void tell(Object got) {\n"
                + "        System.out.println(got instanceof String ? '\"' + (String) got + '\"' : got.toString());\n"
                + "    }\n\n    public static void main(String[] args) {\n" + example.get(0) + "\n");
        List<String> answers = new ArrayList<>();
        for (String line : example.subList(1, example.size())) {
            Matcher asked = ASKED.matcher(line);
            CHECK.due("whether a call and its answer are seen in: " + line, asked.matches(), true);
            answers.add(asked.group(1) + " // " + asked.group(2));
            program.append("try { tell(").append(asked.group(1)).append("); } catch (RuntimeException e) { "
                    + "System.out.println(\"throws \" + e.getClass().getSimpleName()); }\n");
        }
        Files.createDirectories(folder.resolve(SOURCE).getParent());
        Files.copy(SOURCE, folder.resolve(SOURCE));
        Files.writeString(folder.resolve("Yours.java"), program + "    }\n}\n");
        List<String> got = commands(lines, folder).lines().collect(Collectors.toList());
        CHECK.due("how many answers", got.size(), answers.size());
        for (int i = 0; i < Math.min(got.size(), answers.size()); i++) {
            String call = answers.get(i).replaceAll(" // .*", "");
            CHECK.due("the example's no. " + (i + 1), call + " // " + got.get(i), answers.get(i));
        }
    }

    /** Runs them one after the other, but not the one that runs this test; tells what they print. */
    private static String commands(List<String> lines, Path folder) throws IOException, InterruptedException {
        StringBuilder printed = new StringBuilder();
        int count = 0;
        for (String line : lines) {
            if (line.startsWith("    ") && !line.strip().equals(TO_TEST)) {
                Process process = new ProcessBuilder(line.strip().split(" ")).directory(folder.toFile())
                        .redirectErrorStream(true).start();
                printed.append(new String(process.getInputStream().readAllBytes()));
                CHECK.due(line.strip() + " ends with", process.waitFor(), 0);
                count++;
            }
        }
        CHECK.due("commands that were run", count, 3);
        CHECK.due("whether it tells how to run the tests", lines.contains("    " + TO_TEST), true);
        return printed.toString();
    }

    /** Each method stands in just one row, and that row names its exceptions, in their order. */
    private static void thrown(List<String> lines) {
        List<String> rows = between(lines, "| calls | exceptions |", "");
        for (Method one : Shortnumbers.class.getDeclaredMethods()) {
            if (Modifier.isPublic(one.getModifiers())) {
                List<String> want = Stream.of(one.getExceptionTypes()).map(Class::getSimpleName)
                        .collect(Collectors.toList());
                List<List<String>> got = rows.stream().map(row -> row.split("\\|"))
                        .filter(row -> named(row[1]).contains(one.getName())).map(row -> named(row[2]))
                        .collect(Collectors.toList());
                CHECK.due("what " + one.getName() + " may throw", got, List.of(want));
            }
        }
    }

    private static void tests(List<String> lines) throws IOException {
        TreeSet<String> told = new TreeSet<>();
        for (String row : between(lines, "| test | promises |", "")) {
            told.addAll(named(row.split("\\|")[1]));
        }
        TreeSet<String> there = new TreeSet<>();
        try (Stream<Path> files = Files.list(Path.of("src/test/java"))) {
            files.map(file -> file.getFileName().toString()).filter(name -> name.endsWith("Test.java"))
                    .forEach(name -> there.add(name.replace(".java", "")));
        }
        CHECK.due("the list of tests", told, there);
    }

    private static List<String> named(String cell) {
        return NAMED.matcher(cell).results().map(found -> found.group(1)).collect(Collectors.toList());
    }

    /** The lines behind the first one that is this, up to the next one that is that. */
    private static List<String> between(List<String> lines, String first, String last) {
        int from = lines.indexOf(first) + 1;
        CHECK.due("whether there is a line " + first, from > 0, true);
        int end = from;
        while (end < lines.size() && !lines.get(end).equals(last)) {
            end++;
        }
        return lines.subList(from, end);
    }

    private static void remove(Path folder) throws IOException {
        List<Path> all;
        try (Stream<Path> found = Files.walk(folder)) {
            all = found.sorted(Comparator.reverseOrder()).collect(Collectors.toList());
        }
        for (Path one : all) {
            Files.delete(one);
        }
    }
}
