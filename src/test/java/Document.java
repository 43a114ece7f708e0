import java.io.IOException;
import java.nio.file.Files;
import java.nio.file.Path;
import java.util.ArrayList;
import java.util.LinkedHashMap;
import java.util.List;
import java.util.Map;
import java.util.Set;

/** The document: tests are named by its words, and each of its sentences is to be quoted by a test. */
final class Document {
    private static final Path PAGE = Path.of("../shared/DOC.md");
    private static final Set<String> SAY_NOTHING_ALONE = Set.of("All numbers are integers.", "Error codes.",
        "Blocks.", "Registers.", "Images.", "Programs.", "States.", "Operations, with registers r, q and t:",
        // the face is looked at by LanguageTest
        "The constructor and the methods follow, a promise each: the signature, then what it does.");
    private static final Map<String, List<String>> sections = new LinkedHashMap<>();
    private static final Map<String, List<String>> quotes = new LinkedHashMap<>();

    private Document() { }

    /** A script that tests what these words of the description say. */
    static Script description(String words) {
        return quote("Description", words);
    }

    /** A script that tests what these words of a promise say. */
    static Script promise(int number, String words) {
        return quote("Promise " + number, words);
    }

    static Script about(String words) {
        return quote("What it is", words);
    }

    private static Script quote(String section, String words) {
        also(section, words);
        return new Script(section + ", '" + words + "'");
    }

    /** These words, too, are tested by the script that is made next. */
    static void also(String section, String words) {
        quotes.computeIfAbsent(section, s -> new ArrayList<>()).add(words);
    }

    /** Says which sentences no test has quoted, and which quotes do not stand in the document. */
    static boolean isQuotedWhole() throws IOException {
        if (!Files.exists(PAGE)) {
            System.out.println("the document is not here to be compared with the quotes");
            return true;
        }
        read();
        boolean whole = true;
        for (String section : sections.keySet()) {
            whole &= isQuoted(section);
        }
        return whole;
    }

    private static boolean isQuoted(String section) {
        List<String> sentences = sections.get(section);
        List<String> quoted = quotes.getOrDefault(section, List.of());
        boolean whole = true;
        String all = String.join(" ", sentences);
        for (String words : quoted) {
            if (!all.contains(words)) {
                whole = false;
                System.out.println(section + " does not say: " + words);
            }
        }
        for (String sentence : sentences) {
            boolean met = quoted.stream().anyMatch(q -> sentence.contains(q) || q.contains(sentence));
            if (!met && !SAY_NOTHING_ALONE.contains(sentence)) {
                whole = false;
                System.out.println(section + " has no test of: " + sentence);
            }
        }
        return whole;
    }

    private static void read() throws IOException {
        String section = "";
        StringBuilder part = new StringBuilder();
        for (String line : Files.readAllLines(PAGE)) {
            if (line.isBlank() || line.startsWith("#") || line.startsWith("- ")) {
                keep(section, part);
            }
            if (line.startsWith("#")) {
                section = line.replaceAll("#+ ", "").replaceAll("(Promise \\d+):.*", "$1");
            } else {
                part.append(line.replaceAll("^- ", "")).append(' ');
            }
        }
        keep(section, part);
    }

    private static void keep(String section, StringBuilder part) {
        String text = part.toString().replaceAll("\\s+", " ").strip();
        part.setLength(0);
        boolean tested = section.equals("What it is") || section.equals("Description") || section.startsWith("Promise");
        // the examples have a test of their own, and a signature is looked at with the face
        if (!tested || text.isEmpty() || text.startsWith("Examples:") || text.matches("`\\w.*\\(.*\\)`|---- .*")) {
            return;
        }
        List<String> sentences = sections.computeIfAbsent(section, s -> new ArrayList<>());
        sentences.addAll(List.of(text.split("(?<=\\.) (?=[A-Z])")));
    }
}
