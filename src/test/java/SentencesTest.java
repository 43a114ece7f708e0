import java.io.IOException;

/** Each sentence of the document, with a test of its own; fails, too, if a sentence has none. */
final class SentencesTest {
    public static void main(String[] args) throws IOException {
        overview();
        ErrorSentences.run();
        MemorySentences.run();
        HalfSentences.run();
        OperationSentences.run();
        ImageSentences.run();
        ProgramSentences.run();
        StateSentences.run();
        boolean whole = Document.isQuotedWhole();
        Script.end();
        if (!whole) {
            System.exit(1);
        }
    }

    private static void overview() {
        Document.about("registers with numbers or pointers that know their blocks, and operations that are rejected if they are "
            + "undefined, with the reason.").due("""
            make(0, 2) = 0; copy(1, 0) = 2; end(0) = 0; set(2, 5) = 5; store(1, 2, 1) = -13; undefined(3) = 1; at(0, 0) = -1
            """);
        Document.about("Frozen blocks become constant images, equal ones only once; small programs with jumps are carried out "
            + "with a limit of steps.").due("make(0, 2) = 0; make(1, 2) = 1; freeze(0) = 0; freeze(1) = 0; count(1) = 1")
            .does("s0 1;j0 1;", -500);
    }
}
