import java.io.IOException;
import java.nio.charset.StandardCharsets;
import java.nio.file.Files;
import java.nio.file.Path;
import java.util.ArrayList;
import java.util.Comparator;
import java.util.List;
import java.util.Set;
import java.util.TreeSet;
import java.util.regex.Matcher;
import java.util.regex.Pattern;
import java.util.stream.Stream;

/** What README.md says is so: its example is compiled and run by its own commands, and the tests are those it names. */
public final class ReadmeTests {
    private static final String CLASS_FILE = "src/main/java/Sashwords.java";
    private static int checks = 0;
    private static int wrong = 0;

    public static void main(String[] args) throws Exception {
        String page = Files.readString(Path.of("README.md"));
        exampleAnswersAsItSays(page);
        testsAreRunAsItSays(page);
        System.out.println("ReadmeTests: " + checks + " checks, " + wrong + " wrong");
        if (wrong != 0) {
            System.exit(1);
        }
    }

    private static void check(boolean right, String what) {
        checks++;
        if (!right) {
            wrong++;
            System.out.println("README.md: " + what);
        }
    }

    // The example.

    private static void exampleAnswersAsItSays(String page) throws Exception {
        Matcher block = Pattern.compile("```java\n(.*?)```", Pattern.DOTALL).matcher(page);
        if (!block.find()) {
            check(false, "there is no example");
            return;
        }
        String example = block.group(1);
        check(!block.find(), "there is more than one example");
        Path place = Files.createTempDirectory("readme");
        try {
            Files.createDirectories(place.resolve(CLASS_FILE).getParent());
            Files.copy(Path.of(CLASS_FILE), place.resolve(CLASS_FILE));
            Files.writeString(place.resolve(nameOf(example) + ".java"), example);
            List<String> printed = new ArrayList<>();
            List<String> commands = indented(page, "java");
            check(commands.size() == 2, "one command compiles the example and one runs it: " + commands);
            for (String command : commands) {
                printed.addAll(linesOf(command, place));
            }
            compare(dueLines(example), printed);
        } finally {
            remove(place);
        }
    }

    private static String nameOf(String example) {
        Matcher name = Pattern.compile("public class (\\w+)").matcher(example);
        check(name.find(), "the example is a public class");
        return name.reset().find() ? name.group(1) : "Example";
    }

    /** The lines that stand by themselves as commands and start with these letters. */
    private static List<String> indented(String page, String start) {
        List<String> found = new ArrayList<>();
        boolean inBlock = false;
        for (String line : page.split("\n")) {
            inBlock = inBlock != line.startsWith("```");
            if (!inBlock && line.startsWith("    " + start)) {
                found.add(line.trim());
            }
        }
        return found;
    }

    private static List<String> linesOf(String command, Path place) throws IOException, InterruptedException {
        Process process = new ProcessBuilder(command.split(" ")).directory(place.toFile())
                .redirectErrorStream(true).start();
        String output = new String(process.getInputStream().readAllBytes(), StandardCharsets.UTF_8);
        check(process.waitFor() == 0, "\"" + command + "\" fails: " + output);
        List<String> lines = new ArrayList<>();
        for (String line : output.split("\n")) {
            if (!line.isEmpty()) {
                lines.add(line);
            }
        }
        return lines;
    }

    /** What stands behind each line that prints, up to the colon. */
    private static List<String> dueLines(String example) {
        List<String> due = new ArrayList<>();
        for (String line : example.split("\n")) {
            if (line.contains("System.out.println(")) {
                int comment = line.indexOf("// ");
                check(comment > 0, "what is printed does not stand behind: " + line.trim());
                due.add(comment < 0 ? "" : line.substring(comment + 3).replaceFirst(":.*", ""));
            }
        }
        check(!due.isEmpty(), "the example prints nothing");
        return due;
    }

    private static void compare(List<String> due, List<String> printed) {
        for (int i = 0; i < Math.max(due.size(), printed.size()); i++) {
            String want = i < due.size() ? due.get(i) : "no line more";
            String got = i < printed.size() ? printed.get(i) : "no line more";
            check(want.equals(got), "line " + (i + 1) + " of the example is said to be " + want + ", but is " + got);
        }
    }

    private static void remove(Path place) throws IOException {
        List<Path> all = new ArrayList<>();
        try (Stream<Path> paths = Files.walk(place)) {
            paths.sorted(Comparator.reverseOrder()).forEach(all::add);
        }
        for (Path path : all) {
            Files.delete(path);
        }
    }

    // The tests.

    private static void testsAreRunAsItSays(String page) throws IOException {
        check(indented(page, ".").equals(List.of(".ci/run")), "the tests are run by .ci/run");
        check(Files.isExecutable(Path.of(".ci/run")), ".ci/run can be run");
        check(filesIn("src/test/java").equals(named(page, "(\\w+Tests)")), "the tests are " + filesIn("src/test/java")
                + ", but it names " + named(page, "(\\w+Tests)"));
        for (String path : named(page, "((?:src|[.]ci|[.][.]/shared)/[\\w/.]+)")) {
            check(Files.exists(Path.of(path)), "there is no " + path);
        }
    }

    private static Set<String> filesIn(String folder) throws IOException {
        Set<String> names = new TreeSet<>();
        try (Stream<Path> paths = Files.list(Path.of(folder))) {
            paths.forEach(path -> names.add(path.getFileName().toString().replace(".java", "")));
        }
        return names;
    }

    /** What stands in the page between backquotes and is of this form. */
    private static Set<String> named(String page, String form) {
        Set<String> names = new TreeSet<>();
        Matcher name = Pattern.compile("`" + form + "`").matcher(page);
        while (name.find()) {
            names.add(name.group(1));
        }
        return names;
    }
}
