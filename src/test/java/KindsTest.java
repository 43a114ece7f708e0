/**
 * Every operation with registers of every kind, as a call and as a program: which reason comes
 * first is left to the model, with which each script compares its answers and states.
 */
final class KindsTest {
    // registers 0 to 3 at the begin of a block that is live, one that is constant, one that will be
    // ended, each with a number, a pointer to the constant one and an uninitialized byte, and of six numbers
    private static final String BLOCKS = """
        make(0, 4) = 0; make(1, 4) = 1; make(2, 4) = 2; make(3, 6) = 3; set(4, 65) = 65; store(0, 4, 1) = 0;
        store(1, 4, 1) = 0; copy(5, 0) = 2; move(5, 1) = 1; store(5, 1, 2) = 1; blit(1, 0, 4) = 4; blit(2, 0, 4) = 4;
        freeze(1) = 0; copy(5, 3) = 2; set(4, 16962) = 16962; store(5, 4, 2) = 0; move(5, 2) = 2;
        store(5, 4, 2) = 2; move(5, 2) = 4; store(5, 4, 2) = 4;
        """;
    private static final String[] KINDS = {"forget(R) = 2", "set(R, 0) = 0", "set(R, 300) = 300", "0 0", "0 1", "0 2", "0 3", "0 4",
        "1 0", "1 1", "1 3", "1 4", "2 0", "2 1", "2 4", "3 0", "3 1", "3 6"};

    public static void main(String[] args) {
        for (String kind : KINDS) {
            alone(kind);
            for (String other : KINDS) {
                together(kind, other);
            }
        }
        Script.end();
    }

    private static void alone(String kind) {
        both(kind, kind, "end", "e", 4);
        both(kind, kind, "freeze", "z", 4);
        both(kind, kind, "forget", "", 4);
        for (int n = -12; n <= 12; n++) {
            both(kind, kind, "move", "v", 4, n);
        }
        for (int w = 1; w <= 2; w++) {
            both(kind, kind, "store", "w", 4, 4, w);
            both(kind, kind, "load", "l", 4, 4, w);
        }
        both(kind, kind, "compare", "", 4, 4);
        both(kind, kind, "blit", "b", 4, 4, 2);
        program(kind, kind, "d4 4 4;");
        program(kind, kind, "j4 1;j4 3;s0 1;s1 1;");
    }

    private static void together(String kind, String other) {
        both(kind, other, "copy", "c", 4, 5);
        for (int w = 1; w <= 2; w++) {
            both(kind, other, "store", "w", 4, 5, w);
            both(kind, other, "load", "l", 4, 5, w);
        }
        both(kind, other, "compare", "", 4, 5);
        program(kind, other, "d4 5 0;");
        for (int n = 1; n <= 6; n++) {
            both(kind, other, "blit", "b", 4, 5, n);
        }
    }

    /** The operation as a call, and as a program if it has a letter. */
    private static void both(String kind, String other, String method, String letter, int... arguments) {
        Script s = registers(kind, other, method);
        s.ask(method, arguments);
        s.endWithLast();
        if (!letter.isEmpty()) {
            StringBuilder text = new StringBuilder("s3 5;").append(letter);
            for (int argument : arguments) {
                text.append(argument).append(' ');
            }
            program(kind, other, text.append(';').toString());
        }
    }

    private static void program(String kind, String other, String text) {
        Script s = registers(kind, other, text).typed(text);
        s.ask("does");
        s.endWithLast();
    }

    /** Registers 4 and 5 become what is asked for. */
    private static Script registers(String kind, String other, String name) {
        Script s = new Script(name + " with '" + kind + "' and '" + other + "'").due(BLOCKS).due("copy(4, 0) = 2; copy(5, 0) = 2");
        become(s, 4, kind);
        become(s, 5, other);
        return s.due("end(2) = 2");
    }

    private static void become(Script s, int r, String kind) {
        if (kind.contains("R")) {
            s.due(kind.replace("R", "" + r));
            return;
        }
        int offset = kind.charAt(2) - '0';
        s.due(2, "copy", r, kind.charAt(0) - '0').due(offset, "move", r, offset);
    }
}
