/** What the description says of saved states, and the promises 1, 14, 20, 21, 25 and 26. */
final class StateSentences {
    // block 0: a pointer to block 1, a number, an uninitialized byte; block 1: nothing; two images
    private static final String FOUR_CALLS = "make(0, 4) = 0; make(1, 2) = 1; store(0, 1, 2) = 0; set(2, 7) = 7;";

    private StateSentences() { }

    static void run() {
        newObject();
        lastCall();
        saving();
        savingWithoutChange();
        notSaving();
        namely();
        latestFive();
        register();
        count();
        errorCounts();
        undefined();
        back();
        digest();
        digestChangesNothing();
    }

    private static Script says(String words) {
        return Document.description(words);
    }

    private static Script promise(int number, String words) {
        return Document.promise(number, words);
    }

    private static void newObject() {
        promise(1, "Creates a memory without blocks and images").due("""
            count(0) = 0; count(1) = 0; count(2) = 0; piece(0, 0) = -2; at(0, 0) = -2; image(0, 0) = -2; imaged(0, 0, 0) = -2;
            like(0) = -2; make(0, 1) = 0
            """);
        Script registers = promise(1, "with uninitialized registers");
        for (int r = 0; r <= 5; r++) {
            registers.due(0, "register", r, 0).due(-1, "register", r, 1).due(-1, "register", r, 2).due(-11, "move", r, 0);
        }
        promise(1, "an empty text buffer and no saved states.").due("count(8) = 0; does() = -10; clear() = 0; count(9) = 0; back() = -3");
        promise(1, "Creates a memory").due("""
            count(3) = 40; count(4) = 0; count(5) = 0; count(6) = 0; count(7) = 0; undefined(1) = 0; undefined(2) = 0;
            undefined(3) = 0; undefined(4) = 0; undefined(5) = 0; undefined(6) = 0; undefined(7) = 0; undefined(8) = 0;
            undefined(9) = 0
            """);
        // one object knows nothing of another
        FrozenImages first = new FrozenImages();
        FrozenImages second = new FrozenImages();
        Script s = promise(1, "Creates a memory");
        s.check("make(0, 3) of the first", first.make(0, 3), 0);
        s.check("freeze(0) of the first", first.freeze(0), 0);
        s.check("type(32) of the first", first.type(32), 1);
        s.check("count(0) of the second", second.count(0), 0);
        s.check("count(1) of the second", second.count(1), 0);
        s.check("count(8) of the second", second.count(8), 0);
        s.check("count(9) of the second", second.count(9), 0);
        s.check("register(0, 0) of the second", second.register(0, 0), 0);
        s.check("make(0, 3) of the second", second.make(0, 3), 0);
        s.check("like(0) of the second", second.like(0), -1);
    }

    private static void lastCall() {
        Script s = Document.about("An object is used for at most 512 calls after it has been made");
        FrozenImages x = new FrozenImages();
        for (int call = 1; call <= 509; call++) {
            s.check("call " + call + ", set(0, " + call + ")", x.set(0, call), call);
        }
        s.check("call 510, back()", x.back(), 4);
        s.check("call 511, register(0, 1)", x.register(0, 1), 508);
        s.check("call 512, make(0, 12)", x.make(0, 12), 0);
        // what is answered behind that is free, but nothing may be thrown
        for (int call = 513; call <= 3000; call++) {
            x.make(call % 7, call % 13);
            x.type(call % 128);
            x.does();
            x.freeze(call % 6);
            x.back();
            x.digest();
        }
    }

    private static void saving() {
        String words = "Calls of make(), end(), set(), copy(), move(), store(), load(), blit(), freeze(), forget(), budget() "
            + "and does() that return no error save the state before them";
        String[] calls = {"make(3, 1) = 2", "end(1) = 1", "set(3, 5) = 5", "copy(3, 0) = 2", "move(0, 1) = 1", "store(1, 2, 2) = 0",
            "load(3, 0, 2) = 2", "blit(1, 0, 2) = 2", "freeze(0) = 0", "forget(0) = 2", "budget(7) = 40", "does() = 1"};
        for (String call : calls) {
            Script s = says(words).due(FOUR_CALLS + "back() = 3; set(2, 7) = 7").typed("s4 9;");
            long before = s.ask("digest");
            s.due("count(9) = 4").due(call).due("count(9) = 5; back() = 4").due(before, "digest");
            s.due("back() = 3; register(2, 0) = 0");
        }
    }

    private static void savingWithoutChange() {
        String[] calls = {"set(2, 7) = 7", "copy(0, 0) = 2", "copy(5, 4) = 0", "move(0, 0) = 0", "move(2, 0) = 7", "store(0, 1, 2) = 0",
            "load(1, 0, 2) = 2", "blit(0, 0, 4) = 4", "freeze(3) = 0", "forget(5) = 0", "budget(40) = 40", "does() = 1"};
        for (String call : calls) {
            unchanged(call);
        }
    }

    private static void unchanged(String call) {
        // one program makes all there is, so that it is one saved state
        Script s = says("(also if nothing is changed)").does("m3 1;z3;m0 4;m1 2;w0 1 2;s2 7;", 6).typed("s2 7;");
        s.due("count(9) = 1").due(call).due("count(9) = 2; register(2, 1) = 7; back() = 1; register(2, 1) = 7");
        s.due("count(0) = 3; back() = 0; count(0) = 0");
    }

    private static void notSaving() {
        String queries = """
            compare(0, 1) = -18; compare(0, 0) = 1; register(0, 0) = 2; piece(0, 5) = 2; at(0, 0) = 1100; image(0, 0) = -2;
            imaged(0, 0, 0) = -2; like(0) = -1; count(0) = 2; undefined(1) = 0; type(101) = 1; clear() = 0; does() = -10;
            make(6, 1) = -2; end(5) = -11; set(0, 65536) = -2; copy(0, 6) = -2; move(0, 5) = -15;
            store(0, 0, 1) = -17; load(0, 0, 1) = -16; blit(0, 0, 1) = -16; freeze(4) = -11; forget(6) = -2; budget(61) = -2
            """;
        for (String call : queries.split(";")) {
            says("that return no error save the state before them").due(FOUR_CALLS).due(call)
                .due("count(9) = 4; back() = 3; register(2, 0) = 0; at(0, 0) = 1100; back() = 2; at(0, 0) = -1");
        }
        for (String program : new String[] {"x", "e5;", "s0 1;e6;", "s0 1;j0 1;", "s0 1;s0 70000;"}) {
            Script s = says("that return no error save the state before them").due(FOUR_CALLS).typed(program);
            s.check("does() is refused", s.ask("does") < 0 ? 1 : 0, 1);
            s.due("count(9) = 4; register(0, 0) = 2; back() = 3; register(2, 0) = 0; back() = 2; at(0, 0) = -1");
        }
    }

    private static void namely() {
        String words = "namely all but the text buffer and the counts of errors";
        says(words).due(FOUR_CALLS).typed("s2 1;").due("end(5) = -11; end(6) = -2; like(9) = -2; set(2, 8) = 8; clear() = 5")
            .due("type(32) = 1; end(2) = -12; back() = 4; register(2, 1) = 7; count(8) = 1; count(7) = 2; count(4) = 2")
            .due("undefined(1) = 1; undefined(2) = 1; back() = 3; back() = 2; back() = 1; back() = 0; back() = -3; count(5) = 1")
            .due("count(8) = 1; count(7) = 2; does() = -11");
        // registers, bytes, ended and constant blocks, their number, images, the budget
        says(words).due(FOUR_CALLS + "forget(0) = 2; back() = 4; register(0, 0) = 2; register(0, 1) = 0; register(0, 2) = 0");
        says(words).due(FOUR_CALLS + "move(0, 3) = 3; back() = 4; register(0, 2) = 0; move(2, 3) = 10; back() = 4; register(2, 1) = 7");
        says(words).due(FOUR_CALLS + "store(0, 2, 1) = 0; at(0, 1) = -1; back() = 4; at(0, 0) = 1100; at(0, 1) = 999; load(3, 0, 2) = 2");
        says(words).due(FOUR_CALLS + "blit(1, 0, 2) = 2; at(1, 0) = 1100; back() = 4; at(1, 0) = -1; at(1, 1) = -1; piece(1, 3) = 2");
        says(words).due(FOUR_CALLS + "end(1) = 1; piece(1, 1) = 0; back() = 4; piece(1, 1) = 1; end(1) = 1; count(2) = 1");
        says(words).due(FOUR_CALLS + "freeze(0) = 0; piece(1, 2) = 1; back() = 4; piece(0, 2) = 0; piece(1, 2) = 0; count(1) = 0; "
            + "image(0, 0) = -2; like(0) = -1; store(1, 2, 2) = 0; freeze(1) = 0; image(0, 0) = 1; imaged(0, 0, 0) = 7");
        says(words).due(FOUR_CALLS + "make(0, 9) = 2; back() = 4; count(0) = 2; piece(2, 0) = -2; register(0, 1) = 0; make(0, 3) = 2; piece(2, 0) = 3");
        says(words).due(FOUR_CALLS + "budget(2) = 40; back() = 4; count(3) = 40; budget(3) = 40; budget(4) = 3; back() = 4; count(3) = 3");
        // images that were frozen before a state are there when it is brought back, as they were
        says(words).due("""
            make(0, 2) = 0; make(1, 3) = 1; make(2, 4) = 2; freeze(0) = 0; freeze(1) = 1; freeze(2) = 2; back() = 4; back() = 3;
            freeze(2) = 1; freeze(1) = 2; image(0, 1) = 2; image(1, 1) = 4; image(2, 1) = 3; back() = 4; back() = 3;
            image(0, 1) = 2; count(1) = 1; freeze(1) = 1; image(1, 1) = 3; like(2) = -1
            """);
    }

    private static void latestFive() {
        Script s = says("the latest 5 saved states can be brought back by back().");
        for (int i = 1; i <= 8; i++) {
            s.due(i, "set", 0, i).due(Math.min(i, 5), "count", 9);
        }
        s.due("back() = 4; register(0, 1) = 7; back() = 3; register(0, 1) = 6; back() = 2; register(0, 1) = 5; back() = 1")
            .due("register(0, 1) = 4; back() = 0; register(0, 1) = 3; back() = -3; register(0, 1) = 3; count(9) = 0");
        for (int n = 0; n <= 7; n++) {
            Script few = says("the latest 5 saved states can be brought back by back().");
            for (int i = 1; i <= n; i++) {
                few.due(i, "set", 0, i);
            }
            int saved = Math.min(n, 5);
            few.due(saved, "count", 9);
            for (int i = 1; i <= saved; i++) {
                few.due(saved - i, "back").due(n - i == 0 ? -1 : n - i, "register", 0, 1);
            }
            few.due("back() = -3");
        }
        // saved anew after some were brought back
        says("the latest 5 saved states can be brought back by back().").due("""
            set(0, 1) = 1; set(0, 2) = 2; set(0, 3) = 3; set(0, 4) = 4; set(0, 5) = 5; set(0, 6) = 6; back() = 4; back() = 3;
            set(0, 70) = 70; set(0, 80) = 80; count(9) = 5; set(0, 90) = 90; count(9) = 5; back() = 4; register(0, 1) = 80;
            back() = 3; register(0, 1) = 70; back() = 2; register(0, 1) = 4; back() = 1; register(0, 1) = 3; back() = 0;
            register(0, 1) = 2; back() = -3
            """);
    }

    private static void register() {
        promise(14, "Returns a property of a register.").due("set(0, 5) = 5; register(0, 0) = 1; register(0, 1) = 5; count(9) = 1");
        for (int r = 0; r <= 5; r++) {
            promise(14, "`r`: the register, 0 to 5").due(r + 30, "set", r, r + 30).due(r + 30, "register", r, 1);
        }
        promise(14, "`r`: the register, 0 to 5")
            .all(-2, "register(-1, 0); register(6, 0); register(7, 1); register(2147483647, 2); register(-2147483648, 0)").due("count(4) = 5");
        promise(14, "`what`: 0 0 if it is uninitialized, 1 if it is a number, 2 if it is a pointer").due("""
            register(0, 0) = 0; set(0, 0) = 0; register(0, 0) = 1; make(0, 1) = 0; register(0, 0) = 2; end(0) = 0;
            register(0, 0) = 2; forget(0) = 2; register(0, 0) = 0
            """);
        promise(14, "1 the number, or the block of the pointer (NONE if it is uninitialized)").due("""
            register(0, 1) = -1; set(0, 0) = 0; register(0, 1) = 0; set(0, 65535) = 65535; register(0, 1) = 65535;
            make(0, 1) = 0; make(1, 1) = 1; register(0, 1) = 0; register(1, 1) = 1; move(1, 1) = 1; register(1, 1) = 1;
            forget(1) = 2; register(1, 1) = -1
            """);
        promise(14, "2 the offset of the pointer (NONE if it is no pointer)").due("""
            register(0, 2) = -1; set(0, 5) = 5; register(0, 2) = -1; make(0, 12) = 0; register(0, 2) = 0; move(0, 12) = 12;
            register(0, 2) = 12; move(0, -5) = 7; register(0, 2) = 7; set(0, 1) = 1; register(0, 2) = -1; forget(0) = 1;
            register(0, 2) = -1
            """);
        promise(14, "Returns the property; or BAD.").due("set(0, 5) = 5; register(0, 2) = -1")
            .all(-2, "register(0, 3); register(0, -1); register(0, 2147483647); register(0, -2147483648); register(6, 3)")
            .due("count(4) = 5; register(0, 0) = 1");
    }

    private static void count() {
        promise(20, "Returns a number.").due("make(0, 2) = 0; count(0) = 1; count(9) = 1; count(9) = 1");
        promise(20, "`what`: 0 of blocks, 1 of images, 2 of live blocks, 3 the budget").due("""
            count(0) = 0; count(1) = 0; count(2) = 0; count(3) = 40; make(0, 1) = 0; make(1, 2) = 1; make(2, 1) = 2;
            count(0) = 3; count(2) = 3; end(2) = 2; count(0) = 3; count(2) = 2; freeze(0) = 0; count(1) = 1; freeze(1) = 1;
            count(1) = 2; count(2) = 2; budget(60) = 40; count(3) = 60; back() = 4; count(3) = 40; back() = 3; count(1) = 1;
            back() = 2; back() = 1; count(2) = 3; count(1) = 0
            """);
        promise(20, "8 of bytes in the text buffer, 9 of saved states").due("""
            count(8) = 0; count(9) = 0; type(1) = 1; count(8) = 1; type(2) = 2; count(8) = 2; type(128) = -2; count(8) = 2;
            set(0, 1) = 1; count(9) = 1; set(0, 1) = 1; set(0, 1) = 1; set(0, 1) = 1; count(9) = 4; set(0, 1) = 1;
            count(9) = 5; set(0, 1) = 1; count(9) = 5; back() = 4; count(9) = 4; count(8) = 2; clear() = 2; count(8) = 0
            """);
        promise(20, "Returns the number; or BAD.").all(-2, "count(-1); count(10); count(11); count(2147483647); count(-2147483648)")
            .due("count(4) = 5; count(9) = 0; count(0) = 0");
    }

    private static void errorCounts() {
        promise(20, "4 how often BAD was returned, 5 how often NO, 6 how often FULL, 7 how often the code of a reason").due("""
            count(10) = -2; count(4) = 1; undefined(0) = -2; count(4) = 2; at(0, 0) = -2; count(4) = 3; count(5) = 0;
            count(6) = 0; count(7) = 0; back() = -3; count(5) = 1; back() = -3; count(5) = 2; end(0) = -11; count(7) = 1;
            set(0, 1) = 1; end(0) = -12; freeze(0) = -12; count(7) = 3; count(4) = 3; count(5) = 2; count(6) = 0;
            make(0, 1) = 0; end(0) = 0; like(0) = -3; count(5) = 3; end(0) = -13; count(7) = 4
            """);
        Script full = promise(20, "6 how often FULL");
        for (int p = 0; p < 10; p++) {
            full.due(p, "make", 0, 1);
        }
        full.due("make(0, 1) = -4; count(6) = 1; make(0, 1) = -4; count(6) = 2; count(4) = 0; count(7) = 0").typed(" ".repeat(120))
            .due("type(32) = -4; count(6) = 3");
        promise(20, "(4 to 7: not by does())").does("m6 1;", -2000).does("e0;", -5000).does("s0 1;e0;", -6001).does("x", -10).does("s", -11)
            .does("s0", -12).does("s0 ", -13).does("s0 1", -14).does("s0 1;;", -15).does("m0 1;".repeat(11), -3010)
            .due("count(4) = 0; count(5) = 0; count(6) = 0; count(7) = 0; undefined(1) = 0; undefined(2) = 0; undefined(5) = 0");
        // answers that look like codes and are none
        promise(20, "4 how often BAD was returned").due("""
            register(0, 1) = -1; make(0, 1) = 0; at(0, 0) = -1; freeze(0) = 0; imaged(0, 0, 1) = -5; like(0) = 0; make(0, 2) = 1;
            like(1) = -1; count(4) = 0; count(5) = 0; count(6) = 0; count(7) = 0; undefined(9) = 0
            """);
    }

    private static void undefined() {
        promise(21, "Returns how often the code of a reason was returned").due("""
            end(0) = -11; undefined(1) = 1; move(0, 1) = -11; undefined(1) = 2; set(0, 1) = 1; end(0) = -12; undefined(2) = 1;
            undefined(1) = 2; undefined(3) = 0; undefined(9) = 0; back() = 0; undefined(1) = 2; undefined(2) = 1;
            compare(0, 1) = -11; undefined(1) = 3; count(7) = 4
            """);
        promise(21, "(not by does())").does("e0;", -5000).does("s0 1;e0;", -6001).does("s", -11).does("s0", -12)
            .due("undefined(1) = 0; undefined(2) = 0; end(0) = -11; undefined(1) = 1");
        Script s = promise(21, "`k`: the reason, 1 to 9");
        for (int k = 1; k <= 9; k++) {
            s.due(0, "undefined", k);
        }
        s.due("count(4) = 0").all(-2, "undefined(0); undefined(10); undefined(-1); undefined(2147483647); undefined(-2147483648); undefined(11)")
            .due("count(4) = 6");
        promise(21, "Returns the number; or BAD.").due("end(0) = -11; undefined(1) = 1; undefined(10) = -2; undefined(0) = -2; undefined(-11) = -2");
    }

    private static void back() {
        promise(25, "Brings back the state that was saved last; it is not saved any more then.").due("""
            set(0, 1) = 1; set(0, 2) = 2; set(0, 3) = 3; back() = 2; register(0, 1) = 2; count(9) = 2; back() = 1;
            register(0, 1) = 1; count(9) = 1; back() = 0; register(0, 0) = 0; count(9) = 0; back() = -3
            """);
        promise(25, "it is not saved any more then.").due("""
            set(0, 1) = 1; set(0, 2) = 2; back() = 1; set(0, 5) = 5; back() = 1; register(0, 1) = 1; back() = 0; back() = -3
            """);
        promise(25, "Returns how many saved states there still are; or NO if there is none.").due("""
            back() = -3; count(5) = 1; set(0, 1) = 1; set(0, 1) = 1; set(0, 1) = 1; set(0, 1) = 1; set(0, 1) = 1; set(0, 1) = 1;
            back() = 4; back() = 3; back() = 2; back() = 1; back() = 0; back() = -3; back() = -3; count(5) = 3;
            register(0, 1) = 1
            """);
    }

    private static void digest() {
        promise(26, "Returns a checksum. h begins as 2010").due(ofNewObject(), "digest");
        String[] states = {"", FOUR_CALLS, FOUR_CALLS + "freeze(0) = 0; end(5) = -11; move(1, 2) = 2; make(6, 1) = -2",
            "make(0, 12) = 0; freeze(0) = 0; end(0) = -14; make(1, 1) = 1; end(1) = 1; like(1) = -3; type(5) = 1; budget(1) = 40",
            FOUR_CALLS + "move(0, 2) = 2; store(0, 0, 2) = 2; move(0, -2) = 0; freeze(0) = 0; freeze(1) = 1; set(3, 65535) = 65535"};
        for (String state : states) {
            Script s = promise(26, "for each value v of the following ones, h becomes 31 * h + v in long arithmetic, which may overflow.");
            Document.also("Promise 26", "count() with what 0 to 9; undefined() for 1 to 9; for each register register() with what 0 to 2; for each "
                + "block piece() with what 0 to 4 and the codes of its bytes; for each image image() with what 0 to 2 and, for "
                + "each of its nodes, the codes of its bytes.");
            s.due(state).due(byQueries(s), "digest");
        }
        promise(26, "Returns h.").due(ofNewObject(), "digest").due("set(0, 9) = 9; back() = 0").due(ofNewObject(), "digest");
    }

    private static long ofNewObject() {
        long h = 2010;
        int[] values = new int[37];
        values[3] = 40;
        for (int r = 0; r < 6; r++) {
            values[19 + 3 * r + 1] = -1;
            values[19 + 3 * r + 2] = -1;
        }
        for (int v : values) {
            h = 31 * h + v;
        }
        return h;
    }

    /** The checksum as the document has it, of what the queries answer. */
    private static long byQueries(Script s) {
        long h = 2010;
        for (int what = 0; what <= 9; what++) {
            h = 31 * h + s.ask("count", what);
        }
        for (int k = 1; k <= 9; k++) {
            h = 31 * h + s.ask("undefined", k);
        }
        for (int r = 0; r <= 5; r++) {
            for (int what = 0; what <= 2; what++) {
                h = 31 * h + s.ask("register", r, what);
            }
        }
        for (int p = 0; p < s.ask("count", 0); p++) {
            for (int what = 0; what <= 4; what++) {
                h = 31 * h + s.ask("piece", p, what);
            }
            for (int k = 0; k < s.ask("piece", p, 0); k++) {
                h = 31 * h + s.ask("at", p, k);
            }
        }
        for (int i = 0; i < s.ask("count", 1); i++) {
            for (int what = 0; what <= 2; what++) {
                h = 31 * h + s.ask("image", i, what);
            }
            for (int n = 0; n < s.ask("image", i, 0); n++) {
                for (int k = 0; s.ask("imaged", i, n, k) != -5; k++) {
                    h = 31 * h + s.ask("imaged", i, n, k);
                }
            }
        }
        return h;
    }

    private static void digestChangesNothing() {
        Script s = promise(26, "Returns a checksum.").due(FOUR_CALLS + "freeze(0) = 0; end(0) = -14; type(59) = 1");
        long first = s.ask("digest");
        s.due(first, "digest").due("count(4) = 0; count(5) = 0; count(6) = 0; count(7) = 1; count(9) = 5; count(8) = 1").due(first, "digest");
    }
}
