import java.io.ByteArrayOutputStream;
import java.io.IOException;
import java.lang.reflect.Method;
import java.lang.reflect.Modifier;
import java.nio.file.Files;
import java.nio.file.Path;
import java.util.ArrayList;
import java.util.Comparator;
import java.util.List;
import java.util.Set;
import java.util.TreeSet;
import java.util.regex.MatchResult;
import java.util.regex.Pattern;
import java.util.stream.Stream;
import javax.tools.ToolProvider;

/** What README.md says: its program and commands, its face, and an example of each answer below 0. */
final class ReadmeTest {
    private static final Pattern PROGRAM = Pattern.compile("(?s)```java\n(.*?)```");
    private static final Pattern CALL_WITH_ANSWER = Pattern.compile("x\\.(\\w+\\([^)]*\\)); *// (-?\\d+):");
    private static final Pattern COMMAND = Pattern.compile("(?m)^    (\\S.*)$");
    private static final Pattern PRINTED = Pattern.compile("these commands print `([^`]*)`");
    private static final Pattern FACE_ROW = Pattern.compile("(?m)^\\| `(\\w+)\\(([^)]*)\\)` \\|");
    private static final Pattern CODE_ROW = Pattern.compile("(?m)^\\| (-\\d+)(?:, (\\w+))? \\| .* \\| `(.*)` \\|$");
    private static final Pattern TEXT_ROW = Pattern.compile("(?m)^\\| `([^`]*)` \\| (-\\d+) \\|");
    private static final Pattern QUOTED = Pattern.compile("`(\\.?[\\w./]*/[\\w./]+|\\w+\\.md)`");
    private static final List<String> CODES = List.of("-1", "-2", "-3", "-4", "-5", "-11", "-12", "-13", "-14", "-15", "-16",
        "-17", "-18", "-19");
    private static int wrong = 0;

    public static void main(String[] args) throws IOException, InterruptedException, ReflectiveOperationException {
        String page = Files.readString(Path.of("README.md"));
        program(page);
        commands(page);
        face(page);
        codes(page);
        texts(page);
        files(page);
        Script.end();
        if (wrong != 0) {
            System.exit(1);
        }
    }

    private static void need(boolean condition, String fault) {
        if (!condition) {
            wrong++;
            System.out.println("README.md: " + fault);
        }
    }

    private static List<MatchResult> all(Pattern pattern, String text) {
        return pattern.matcher(text).results().toList();
    }

    private static String only(Pattern pattern, String text) {
        List<MatchResult> found = all(pattern, text);
        need(found.size() == 1, found.size() + " times " + pattern);
        return found.isEmpty() ? "" : found.get(0).group(1);
    }

    private static void program(String page) {
        Script script = new Script("the program of README.md");
        List<MatchResult> calls = all(CALL_WITH_ANSWER, only(PROGRAM, page));
        need(calls.size() >= 8, "its program shows few answers: " + calls.size());
        for (MatchResult call : calls) {
            script.due(call.group(1) + " = " + call.group(2));
        }
    }

    /** Carries out the commands for the program as they stand there, but for the place of what they make. */
    private static void commands(String page) throws IOException, InterruptedException {
        Path place = Files.createTempDirectory("readme");
        try {
            Files.writeString(place.resolve("Demo.java"), only(PROGRAM, page));
            List<String> commands = all(COMMAND, page.replaceAll("(?s)```.*?```", "")).stream().map(c -> c.group(1)).toList();
            need(commands.size() == 3, "its commands are " + commands);
            String printed = "";
            for (String command : commands) {
                printed += carriedOut(command, place);
            }
            need(printed.strip().equals(only(PRINTED, page)), "its program prints " + printed);
        } finally {
            remove(place);
        }
    }

    private static String carriedOut(String command, Path place) throws IOException, InterruptedException {
        List<String> words = new ArrayList<>();
        for (String word : command.split(" ")) {
            words.add(word.equals("out") || word.equals("Demo.java") ? place.resolve(word).toString() : word);
        }
        String tool = words.remove(0);
        if (tool.equals("javac")) {
            ByteArrayOutputStream said = new ByteArrayOutputStream();
            int code = ToolProvider.getSystemJavaCompiler().run(null, said, said, words.toArray(new String[0]));
            need(code == 0, command + " says " + said);
            return said.toString();
        }
        if (tool.equals("java")) {
            words.add(0, Path.of(System.getProperty("java.home"), "bin", "java").toString());
            Process process = new ProcessBuilder(words).redirectErrorStream(true).start();
            String said = new String(process.getInputStream().readAllBytes());
            need(process.waitFor() == 0, command + " fails");
            return said;
        }
        // the command that runs this test cannot be run by it
        need(tool.equals(".ci/run") && Files.isExecutable(Path.of(tool)), "no command: " + command);
        return "";
    }

    private static void remove(Path place) throws IOException {
        try (Stream<Path> files = Files.walk(place)) {
            for (Path file : files.sorted(Comparator.reverseOrder()).toList()) {
                Files.delete(file);
            }
        }
    }

    private static void face(String page) {
        List<String> due = new ArrayList<>();
        for (Method m : FrozenImages.class.getDeclaredMethods()) {
            if (Modifier.isPublic(m.getModifiers())) {
                due.add(m.getName() + " " + m.getParameterCount());
            }
        }
        List<String> told = new ArrayList<>();
        for (MatchResult row : all(FACE_ROW, page)) {
            told.add(row.group(1) + " " + (row.group(2).isEmpty() ? 0 : row.group(2).split(",").length));
        }
        need(told.stream().sorted().toList().equals(due.stream().sorted().toList()), "its face is " + told);
    }

    private static void codes(String page) throws ReflectiveOperationException {
        List<String> told = new ArrayList<>();
        Set<String> constants = new TreeSet<>();
        for (MatchResult row : all(CODE_ROW, page)) {
            String code = row.group(1);
            told.add(code);
            need(row.group(3).endsWith(" = " + code), "an example of another answer: " + row.group());
            new Script("README.md, " + code).due(row.group(3));
            if (row.group(2) != null) {
                constants.add(row.group(2));
                int value = FrozenImages.class.getField(row.group(2)).getInt(null);
                need(code.equals(String.valueOf(value)), "a constant with another value: " + row.group());
            }
        }
        need(told.equals(CODES), "its answers below 0 are " + told);
        need(constants.equals(Set.of("NONE", "BAD", "NO", "FULL")), "its constants are " + constants);
    }

    private static void texts(String page) {
        List<MatchResult> rows = all(TEXT_ROW, page);
        need(rows.size() == 6, "answers of does(): " + rows.size());
        for (MatchResult row : rows) {
            new Script("README.md, " + row.group(1)).does(row.group(1), Integer.parseInt(row.group(2)));
        }
    }

    /** The files that the page names in this checkout are there. */
    private static void files(String page) {
        for (MatchResult name : all(QUOTED, page)) {
            String file = name.group(1);
            if (!file.startsWith("../")) {
                need(Files.exists(Path.of(file)), "there is no " + file);
            }
        }
    }
}
