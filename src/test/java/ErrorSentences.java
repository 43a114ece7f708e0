/** What the description says of the error codes. */
final class ErrorSentences {
    // values that digest() takes before those of the blocks: 10 of count(), 9 reasons, 6 registers
    private static final int FIRST_VALUES = 37;
    private static final int BAD_COUNT = 4, NO_COUNT = 5, FULL_COUNT = 6, REASON_COUNT = 7;

    // register 0: block 0 with a pointer to block 1, which is ended; 1: block 1; 2: a number;
    // 3: block 2, which is constant; 4: uninitialized; 5: block 0, offset 3
    private static final String MANY_THINGS = """
        make(0, 4) = 0; make(1, 2) = 1; store(0, 1, 2) = 0; set(2, 7) = 7; make(3, 1) = 2; freeze(3) = 0;
        end(1) = 1; copy(5, 0) = 2; move(5, 3) = 3;
        """;
    private static final int MANY_VALUES = FIRST_VALUES + 9 + 7 + 6 + 4;
    private static final String ALL_BAD = """
        make(-1, 1); make(6, 1); make(0, 0); make(0, 13); end(-1); end(6); set(-1, 0); set(6, 0); set(0, -1);
        set(0, 65536); copy(-1, 0); copy(6, 0); copy(0, -1); copy(0, 6); move(-1, 0); move(6, 0); move(0, -13);
        move(0, 13); store(-1, 0, 1); store(6, 0, 1); store(0, -1, 1); store(0, 6, 1); store(0, 0, 0);
        store(0, 0, 3); load(-1, 0, 1); load(6, 0, 1); load(0, -1, 1); load(0, 6, 1); load(0, 0, 0); load(0, 0, 3);
        compare(-1, 0); compare(6, 0); compare(0, -1); compare(0, 6); blit(-1, 0, 1); blit(6, 0, 1);
        blit(0, -1, 1); blit(0, 6, 1); blit(0, 0, 0); blit(0, 0, 13); freeze(-1); freeze(6); forget(-1); forget(6);
        budget(0); budget(61); register(-1, 0); register(6, 0); register(0, -1); register(0, 3); piece(-1, 0);
        piece(3, 0); piece(0, -1); piece(0, 6); at(-1, 0); at(3, 0); at(0, -1); at(0, 12); image(-1, 0);
        image(1, 0); image(0, -1); image(0, 3); imaged(-1, 0, 0); imaged(1, 0, 0); imaged(0, -1, 0);
        imaged(0, 1, 0); imaged(0, 0, -1); like(-1); like(3); count(-1); count(10); undefined(0); undefined(10);
        type(-1); type(128)
        """;

    private ErrorSentences() { }

    static void run() {
        bad();
        wideBad();
        namesNothing();
        full();
        reasons();
        no();
        order();
        badChangesNothing();
        noAndFullChangeNothing();
        reasonsChangeNothing();
        programsChangeNothing();
        none();
    }

    private static Script says(String words) {
        return Document.description(words);
    }

    private static void bad() {
        says("BAD (-2): an argument is out of range").all(-2, ALL_BAD).due("count(4) = 75");
        says("BAD (-2): an argument is out of range").due(MANY_THINGS).all(-2, ALL_BAD).due("count(4) = 75");
    }

    private static void wideBad() {
        for (int wide : new int[] {Integer.MIN_VALUE, -65536, -100, 65536, 131071, Integer.MAX_VALUE}) {
            String calls = """
                make(W, 1); make(0, W); end(W); set(W, 0); set(0, W); copy(W, 0); copy(0, W); move(W, 0); move(0, W);
                store(W, 0, 1); store(0, W, 1); store(0, 0, W); load(W, 0, 1); load(0, W, 1); load(0, 0, W);
                compare(W, 0); compare(0, W); blit(W, 0, 1); blit(0, W, 1); blit(0, 0, W); freeze(W); forget(W);
                budget(W); register(W, 0); register(0, W); piece(W, 0); piece(0, W); at(W, 0); at(0, W); image(W, 0);
                image(0, W); imaged(W, 0, 0); imaged(0, W, 0); like(W); count(W); undefined(W)
                """.replace("W", String.valueOf(wide));
            says("BAD (-2): an argument is out of range").due(MANY_THINGS).all(-2, calls).due("count(4) = 36");
        }
    }

    private static void namesNothing() {
        says("or names something that does not exist").all(-2, """
            piece(0, 0); at(0, 0); image(0, 0); imaged(0, 0, 0); like(0)
            """).due("""
            make(0, 2) = 0; piece(0, 0) = 2; piece(1, 0) = -2; at(0, 1) = -1; at(0, 2) = -2; at(1, 0) = -2; like(0) = -1;
            like(1) = -2; image(0, 0) = -2; freeze(0) = 0; image(0, 0) = 1; image(1, 0) = -2; imaged(0, 0, 0) = -1;
            imaged(0, 1, 0) = -2; imaged(1, 0, 0) = -2; back() = 1; image(0, 0) = -2; back() = 0; piece(0, 0) = -2;
            like(0) = -2; count(4) = 16
            """);
    }

    private static void full() {
        says("FULL (-4): a capacity would be exceeded.").due("""
            make(0, 1) = 0; make(0, 2) = 1; make(0, 3) = 2; make(0, 4) = 3; make(0, 5) = 4; make(0, 6) = 5; make(0, 7) = 6;
            make(0, 8) = 7; make(0, 9) = 8; make(0, 10) = 9; make(0, 11) = -4; count(6) = 1; make(1, 1) = -4;
            make(5, 12) = -4; count(6) = 3; count(0) = 10
            """);
    }

    private static void reasons() {
        says("-11 to -19: the operation is undefined for the reason 1 to 9 (-10 minus the reason)").due("""
            end(0) = -11; undefined(1) = 1; set(0, 1) = 1; end(0) = -12; undefined(2) = 1; make(0, 2) = 0; make(1, 4) = 1;
            copy(2, 0) = 2; end(0) = 0; end(2) = -13; undefined(3) = 1; copy(3, 1) = 2; move(3, 2) = 2;
            blit(1, 1, 5) = -15; undefined(5) = 1; store(1, 1, 2) = 0; load(4, 1, 1) = -16; undefined(6) = 1;
            store(1, 1, 1) = -17; undefined(7) = 1; compare(1, 0) = -18; undefined(8) = 1; freeze(3) = -19;
            undefined(9) = 1; freeze(1) = 0; end(1) = -14; undefined(4) = 1; count(7) = 9; count(4) = 0
            """);
    }

    private static void no() {
        says("NO (-3): as the methods say.").due("""
            back() = -3; count(5) = 1; make(0, 1) = 0; end(0) = 0; like(0) = -3; count(5) = 2; count(4) = 0; count(6) = 0
            """);
    }

    private static void order() {
        String words = "Each method names its errors in the order in which they are checked; the first that applies is returned";
        says(words).due("""
            make(0, 1) = 0; make(0, 1) = 1; make(0, 1) = 2; make(0, 1) = 3; make(0, 1) = 4; make(0, 1) = 5; make(0, 1) = 6;
            make(0, 1) = 7; make(0, 1) = 8; make(0, 1) = 9; make(0, 1) = -4; make(6, 1) = -2; make(-1, 1) = -2;
            make(0, 0) = -2; make(0, 13) = -2; make(0, 12) = -4; count(4) = 4; count(6) = 2
            """);
        // register 0 is uninitialized: the reason would be 1 if the arguments were right
        says(words).due("move(0, 12) = -11; store(0, 0, 2) = -11; load(0, 0, 2) = -11; compare(0, 0) = -11; blit(0, 0, 12) = -11")
            .all(-2, "move(0, 13); store(0, 0, 3); store(0, 6, 2); load(0, 0, 3); load(6, 0, 2); compare(0, 6); compare(6, 0)")
            .all(-2, "blit(0, 0, 13); blit(0, 6, 12); blit(6, 0, 12); freeze(6); end(6)").due("count(7) = 5; count(4) = 12");
        Script typed = says(words).typed(" ".repeat(120)).due("type(0) = -4; type(127) = -4; count(6) = 2");
        typed.due("type(-1) = -2; type(128) = -2; count(4) = 2; count(6) = 2");
    }

    private static void badChangesNothing() {
        for (String call : ALL_BAD.split(";")) {
            countsOnly(MANY_THINGS, MANY_VALUES, call + " = -2");
        }
    }

    private static void noAndFullChangeNothing() {
        countsOnly(MANY_THINGS, MANY_VALUES, "like(0) = -3");
        countsOnly(MANY_THINGS, MANY_VALUES, "like(1) = -3");
        countsOnly("", FIRST_VALUES, "back() = -3");
        countsOnly("set(0, 1) = 1; back() = 0", FIRST_VALUES, "back() = -3");
        StringBuilder blocks = new StringBuilder();
        for (int p = 0; p < 10; p++) {
            blocks.append("make(0, 1) = ").append(p).append(';');
        }
        countsOnly(blocks.toString(), FIRST_VALUES + 10 * 6, "make(1, 1) = -4");
        StringBuilder images = new StringBuilder();
        for (int i = 0; i < 8; i++) {
            images.append("make(0, ").append(i + 1).append(") = ").append(i).append("; freeze(0) = ").append(i).append(';');
        }
        images.append("make(0, 9) = 8");
        int bytes = 36;
        countsOnly(images.toString(), FIRST_VALUES + 9 * 5 + bytes + 9 + 8 * 3 + bytes, "freeze(0) = -4");
        StringBuilder text = new StringBuilder();
        for (int i = 1; i <= 120; i++) {
            text.append("type(32) = ").append(i).append(';');
        }
        countsOnly(text.toString(), FIRST_VALUES, "type(32) = -4");
    }

    private static void reasonsChangeNothing() {
        String calls = """
            end(4) = -11; end(2) = -12; end(1) = -13; end(3) = -14; end(5) = -19; move(4, 1) = -11; move(1, 0) = -13;
            move(0, -1) = -15; move(3, 2) = -15; store(4, 2, 1) = -11; store(2, 2, 1) = -12; store(1, 2, 1) = -13;
            store(3, 2, 1) = -14; store(5, 2, 2) = -15; store(0, 4, 1) = -11; store(0, 0, 1) = -17; load(0, 4, 1) = -11;
            load(0, 2, 1) = -12; load(0, 1, 1) = -13; load(4, 5, 2) = -15; load(4, 5, 1) = -11; load(4, 0, 1) = -16;
            compare(4, 0) = -11; compare(2, 0) = -17; compare(0, 1) = -18; blit(4, 0, 1) = -11; blit(2, 0, 1) = -12;
            blit(1, 0, 1) = -13; blit(3, 0, 1) = -14; blit(5, 0, 2) = -15; blit(0, 4, 1) = -11; blit(0, 2, 1) = -12;
            blit(0, 1, 1) = -13; blit(0, 5, 2) = -15; blit(0, 0, 1) = -16; freeze(4) = -11; freeze(2) = -12;
            freeze(1) = -13; freeze(0) = -13; freeze(5) = -19
            """;
        for (String call : calls.split(";")) {
            countsOnly(MANY_THINGS, MANY_VALUES, call);
        }
    }

    /** The digest after the call is known from the one before it: only the counts of this error are one more. */
    private static void countsOnly(String before, int values, String call) {
        Script s = says("and nothing is changed then, except that it is counted for count() and undefined()").due(before);
        int code = Integer.parseInt(call.replaceAll("(?s).*=\\s*", "").strip());
        long digest = s.ask("digest");
        s.due(call);
        if (code <= -11) {
            digest += weight(values, REASON_COUNT) + weight(values, 9 + (-10 - code));
        } else {
            digest += weight(values, code == -2 ? BAD_COUNT : code == -3 ? NO_COUNT : FULL_COUNT);
        }
        s.due(digest, "digest");
    }

    /** By how much digest() grows if the value at this index does by one. */
    private static long weight(int values, int index) {
        long weight = 1;
        for (int i = index + 1; i < values; i++) {
            weight *= 31;
        }
        return weight;
    }

    private static void programsChangeNothing() {
        String[] programs = {"", "x", "s0 1;;", "s0 9;j0 0;", "s0 9;m6 1;", "s0 9;e4;", "s0 9;e2;", "s0 9;e1;", "s0 9;e3;",
            "s2 9;v5 2;", "v5 -3;l2 5 1;", "s2 9;w5 5 1;", "v2 1;d3 5 4;", "v2 1;e5;", "v5 -3;e5;m0 1;m0 1;z3;e3;",
            "m0 1;m0 1;m0 1;m0 1;m0 1;m0 1;m0 1;m0 1;"};
        int[] due = {-10, -10, -15, -500, -2001, -5001, -6001, -7001, -8001, -9001, -10001, -11001, -12001, -13001, -8005,
            -3007};
        for (int i = 0; i < programs.length; i++) {
            Script s = says("(for all methods but does())").due(MANY_THINGS).typed(programs[i]);
            long digest = s.ask("digest");
            s.due(due[i], "does").due(digest, "digest").due("count(4) = 0; count(6) = 0; count(7) = 0; undefined(1) = 0");
        }
    }

    private static void none() {
        says("NONE (-1) is no error").due("""
            register(0, 1) = -1; register(5, 2) = -1; set(1, 3) = 3; register(1, 2) = -1; make(0, 2) = 0; at(0, 0) = -1;
            like(0) = -1; freeze(0) = 0; imaged(0, 0, 1) = -1; count(4) = 0; count(5) = 0; count(6) = 0; count(7) = 0;
            count(9) = 3
            """);
        says("it means that there is no such thing, or an uninitialized byte, and it is returned only if no error applies").due("""
            register(0, 1) = -1; register(6, 1) = -2; register(-1, 2) = -2; make(0, 2) = 0; at(0, 1) = -1; at(0, 2) = -2;
            at(0, -1) = -2; like(0) = -1; like(1) = -2; make(1, 2) = 1; store(0, 1, 2) = 0; like(0) = -1; end(1) = 1;
            like(0) = -3; like(1) = -3; make(2, 1) = 2; freeze(2) = 0; imaged(0, 0, 0) = -1; imaged(0, 0, 1) = -5;
            imaged(0, 1, 0) = -2; imaged(0, 0, -1) = -2
            """);
    }
}
