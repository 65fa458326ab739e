import java.io.File;
import java.nio.file.Files;
import java.nio.file.Path;
import java.util.ArrayList;
import java.util.Comparator;
import java.util.List;
import java.util.Set;
import java.util.TreeSet;
import java.util.regex.Matcher;
import java.util.regex.Pattern;
import java.util.stream.Collectors;
import java.util.stream.Stream;

/** Makes a program of the calls in README.md and runs it, and looks whether that page names each test, and no other. */
public final class EpsilonhallReadme {
    private static final Pattern CALL = Pattern.compile("    (?:int (\\w+) = )?(\\w.*;)(?:\\s+// (.*))?");
    private static int wrong = 0;

    public static void main(String[] args) throws Exception {
        List<String> page = Files.readAllLines(Path.of("README.md"));
        checkTests(page);
        runCalls(page);
        System.out.println(wrong == 0 ? "the page is true" : wrong + " faults in README.md");
        if (wrong != 0) {
            System.exit(1);
        }
    }

    private static void fault(String text) {
        wrong++;
        System.out.println(text);
    }

    private static void checkTests(List<String> page) throws Exception {
        Set<String> named = new TreeSet<>();
        for (String line : page) {
            Matcher told = Pattern.compile("- `(Epsilonhall\\w+)`: .*").matcher(line);
            if (told.matches()) {
                named.add(told.group(1) + ".java");
            }
        }
        try (Stream<Path> files = Files.list(Path.of("src/test/java"))) {
            Set<String> there = files.map(f -> f.getFileName().toString()).collect(Collectors.toCollection(TreeSet::new));
            if (!there.equals(named)) {
                fault("the page names " + named + ", there are " + there);
            }
        }
        if (!page.contains("    bash .ci/run") || !Files.isExecutable(Path.of(".ci/run"))) {
            fault("the page does not say how the tests are run, or .ci/run is not executable");
        }
    }

    private static void runCalls(List<String> page) throws Exception {
        List<String> lines = new ArrayList<>();
        int calls = 0;
        for (String line : page) {
            Matcher call = CALL.matcher(line);
            if (call.matches()) {
                calls++;
                lines.add(asProgram(call));
            } else if (line.startsWith("    ") && !line.matches("    (bash|javac|java) .*")) {
                lines.add(line.trim());
            }
        }
        if (calls < 40) {
            fault("the page has " + calls + " calls only");
        }
        Path place = Files.createTempDirectory("page");
        try {
            Path source = place.resolve("Page.java");
            Files.write(source, program(lines));
            String path = System.getProperty("java.class.path");
            if (!isDone("javac", "-cp", path, "-d", place.toString(), source.toString())
                    || !isDone("java", "-cp", path + File.pathSeparator + place, "Page")) {
                fault("the calls of the page do not answer what it says");
            }
        } finally {
            remove(place);
        }
    }

    /** What a line of the page says, as a test: of an ordinal that is added the text, of another call the answer. */
    private static String asProgram(Matcher call) {
        String name = call.group(1);
        String body = call.group(2);
        String due = call.group(3);
        String made = (name == null ? "" : "int " + name + " = ") + body;
        if (due == null) {
            return made;
        }
        String plain = body.substring(0, body.length() - 1);
        String asked = "\"" + plain + "\", \"" + due + "\"";
        if (due.startsWith("throws ")) {
            return "try { " + made + " due(" + asked + ", \"nothing\"); } catch (RuntimeException e) { due(" + asked
                + ", \"throws \" + e.getClass().getSimpleName()); }";
        }
        return name == null ? "due(" + asked + ", shown(" + plain + "));" : made + " due(" + asked + ", text(hall, " + name
            + "));";
    }

    private static List<String> program(List<String> lines) {
        List<String> program = new ArrayList<>(List.of(
            "public final class Page {",
            "static boolean isTrue = true;",
            "static void due(String call, String due, String got) {",
            "if (!due.equals(got)) { isTrue = false; System.out.println(call + \" answers \" + got + \", not \" + due); }",
            "}",
            "static String shown(char sign) { return \"'\" + sign + \"'\"; }",
            "static String shown(long number) { return \"\" + number; }",
            "static String shown(float number) { return \"\" + number; }",
            "static String shown(double number) { return \"\" + number; }",
            "static String shown(boolean truth) { return \"\" + truth; }",
            "static String text(Epsilonhall hall, int ordinal) {",
            "String text = \"\";",
            "for (int k = 0; k < hall.length(ordinal); k++) { text += hall.signAt(ordinal, k); }",
            "return text;",
            "}",
            "public static void main(String[] args) {"));
        program.addAll(lines);
        program.add("System.exit(isTrue ? 0 : 1);");
        program.add("}");
        program.add("}");
        return program;
    }

    private static boolean isDone(String... command) throws Exception {
        return new ProcessBuilder(command).inheritIO().start().waitFor() == 0;
    }

    private static void remove(Path place) throws Exception {
        try (Stream<Path> files = Files.walk(place)) {
            for (Path file : files.sorted(Comparator.reverseOrder()).collect(Collectors.toList())) {
                Files.delete(file);
            }
        }
    }
}
