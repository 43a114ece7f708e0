/** What the description and the promises 2 to 13 say of the operations. */
final class OperationSentences {
    private static final String REGISTER = "`r`: the register, 0 to 5";
    private static final String OTHER = "`q`: the other register, perhaps the same";
    private static final String OR_REASON = "or BAD, the code of a reason";

    private OperationSentences() { }

    static void run() {
        make();
        end();
        set();
        copy();
        move();
        moveNumbers();
        movePointers();
        store();
        storePromise();
        load();
        loadPromise();
        compare();
        comparePromise();
        blit();
        blitPromise();
        forget();
        budget();
    }

    private static Script says(String words) {
        return Document.description(words);
    }

    private static Script promise(int number, String words) {
        return Document.promise(number, words);
    }

    /** The call stands for all registers: R is put by each of them, and by what is none. */
    private static void eachRegister(int promise, String words, String before, String call, long due) {
        for (int r = 0; r <= 5; r++) {
            promise(promise, words).due(before.replace("R", "" + r)).all(due, call.replace("R", "" + r));
        }
        for (int r : new int[] {-1, 6, 7, Integer.MIN_VALUE, Integer.MAX_VALUE}) {
            promise(promise, words).all(-2, call.replace("R", "" + r)).due("count(4) = 1; count(9) = 0");
        }
    }

    private static void make() {
        says("make r, n: makes a block of size n; r becomes a pointer to it with offset 0.").due("""
            set(3, 9) = 9; make(3, 5) = 0; register(3, 0) = 2; register(3, 1) = 0; register(3, 2) = 0; piece(0, 0) = 5;
            move(3, 5) = 5; make(3, 7) = 1; register(3, 1) = 1; register(3, 2) = 0; piece(1, 0) = 7; piece(0, 0) = 5;
            register(2, 0) = 0; register(4, 0) = 0
            """);
        promise(2, "Carries out make.").due("make(0, 12) = 0; register(0, 0) = 2; piece(0, 0) = 12; count(0) = 1; count(9) = 1");
        eachRegister(2, REGISTER, "count(0) = 0", "make(R, 1)", 0);
        for (int n = 1; n <= 12; n++) {
            promise(2, "`n`: the size, 1 to 12").due(0, "make", 0, n).due(n, "piece", 0, 0);
        }
        promise(2, "`n`: the size, 1 to 12").all(-2, "make(0, 0); make(0, 13); make(0, -1); make(0, 2147483647)")
            .all(-2, "make(0, -2147483648); make(0, 14); make(0, 120)").due("count(0) = 0; count(9) = 0; register(0, 0) = 0");
        promise(2, "Returns the number of the block; or BAD, FULL if there are 10 blocks.").due("""
            make(0, 1) = 0; make(0, 1) = 1; make(0, 1) = 2; make(0, 1) = 3; make(0, 1) = 4; make(0, 1) = 5; make(0, 1) = 6;
            make(0, 1) = 7; make(0, 1) = 8; make(0, 1) = 9; make(0, 1) = -4; make(6, 1) = -2; make(0, 13) = -2;
            back() = 4; make(0, 1) = 9; make(0, 1) = -4; count(6) = 2; count(4) = 2
            """);
    }

    private static void end() {
        says("end r: r must be valid with the offset 0 (otherwise 9), its block not constant (otherwise 4).").due("""
            end(0) = -11; set(0, 0) = 0; end(0) = -12; make(0, 3) = 0; move(0, 1) = 1; end(0) = -19; move(0, 2) = 3;
            end(0) = -19; move(0, -3) = 0; copy(1, 0) = 2; freeze(0) = 0; end(0) = -14; move(1, 1) = 1; end(1) = -19;
            back() = 4; back() = 3; end(0) = 0; end(0) = -13; end(1) = -13
            """);
        says("The block is ended then.").due("""
            make(0, 3) = 0; make(1, 3) = 1; end(0) = 0; piece(0, 1) = 0; piece(1, 1) = 1; count(2) = 1; count(0) = 2;
            register(0, 0) = 2; register(0, 1) = 0; register(0, 2) = 0; piece(0, 0) = 3
            """);
        promise(3, "Carries out end.").due("make(0, 3) = 0; end(0) = 0; piece(0, 1) = 0; count(9) = 2; end(0) = -13; count(9) = 2");
        eachRegister(3, REGISTER, "make(R, 2) = 0", "end(R)", 0);
        promise(3, "Returns the number of the block").due("""
            make(0, 1) = 0; make(1, 1) = 1; make(2, 1) = 2; end(2) = 2; end(0) = 0; end(1) = 1
            """);
        promise(3, OR_REASON).due("""
            end(6) = -2; end(0) = -11; set(0, 65535) = 65535; end(0) = -12; make(0, 1) = 0; move(0, 1) = 1; end(0) = -19;
            move(0, -1) = 0; freeze(0) = 0; end(0) = -14; make(0, 1) = 1; end(0) = 1; end(0) = -13
            """);
    }

    private static void set() {
        says("set r, v: r becomes the number v.").due("""
            set(2, 77) = 77; register(2, 0) = 1; register(2, 1) = 77; register(2, 2) = -1; make(2, 2) = 0; set(2, 0) = 0;
            register(2, 0) = 1; register(2, 1) = 0; register(2, 2) = -1; piece(0, 1) = 1; register(1, 0) = 0
            """);
        promise(4, "Carries out set.").due("set(0, 5) = 5; register(0, 1) = 5; count(9) = 1");
        eachRegister(4, REGISTER, "count(0) = 0", "set(R, 8)", 8);
        promise(4, "`v`: the number, 0 to 65535").due("""
            set(0, 0) = 0; register(0, 1) = 0; set(0, 65535) = 65535; register(0, 1) = 65535; set(0, -1) = -2;
            set(0, 65536) = -2; set(0, 2147483647) = -2; set(0, -2147483648) = -2; register(0, 1) = 65535; count(9) = 2
            """);
        promise(4, "Returns v; or BAD.").due("set(0, 1) = 1; set(0, 256) = 256; set(5, 65534) = 65534; set(6, 1) = -2; set(0, -2) = -2");
    }

    private static void copy() {
        says("copy r, q: r becomes what q is, also uninitialized.").due("""
            set(0, 5) = 5; make(1, 4) = 0; move(1, 4) = 4; copy(2, 0) = 1; register(2, 1) = 5; copy(2, 1) = 2;
            register(2, 0) = 2; register(2, 1) = 0; register(2, 2) = 4; copy(2, 3) = 0; register(2, 0) = 0;
            register(2, 1) = -1; register(2, 2) = -1; copy(0, 3) = 0; register(0, 0) = 0; register(1, 2) = 4
            """);
        // pointers to ended and to constant blocks are copied, moved over and forgotten as others are
        says("copy r, q: r becomes what q is, also uninitialized.").due("""
            make(0, 4) = 0; copy(1, 0) = 2; move(1, 3) = 3; end(0) = 0; copy(2, 1) = 2; register(2, 0) = 2; register(2, 1) = 0;
            register(2, 2) = 3; copy(1, 1) = 2; copy(1, 0) = 2; register(1, 2) = 0; forget(0) = 2; set(1, 3) = 3; make(3, 2) = 1;
            freeze(3) = 0; copy(2, 3) = 2; register(2, 1) = 1; register(2, 2) = 0
            """).does("c4 2;c2 5;", 2).due("register(4, 1) = 1; register(2, 0) = 0");
        promise(5, "Carries out copy.").due("set(0, 5) = 5; copy(1, 0) = 1; register(1, 1) = 5; register(0, 1) = 5; count(9) = 2");
        eachRegister(5, REGISTER, "set(0, 3) = 3", "copy(R, 0)", 1);
        eachRegister(5, OTHER, "set(R, 3) = 3", "copy(0, R)", 1);
        promise(5, OTHER).due("""
            copy(0, 0) = 0; register(0, 0) = 0; set(1, 9) = 9; copy(1, 1) = 1; register(1, 1) = 9; make(2, 4) = 0;
            move(2, 3) = 3; copy(2, 2) = 2; register(2, 2) = 3; count(9) = 5
            """);
        promise(5, "Returns 0 if r is uninitialized then, 1 if it is a number, 2 if it is a pointer; or BAD.").due("""
            set(0, 0) = 0; make(1, 2) = 0; copy(2, 0) = 1; copy(2, 1) = 2; copy(2, 3) = 0; copy(1, 3) = 0; copy(6, 0) = -2;
            copy(0, 6) = -2; copy(6, 6) = -2
            """);
    }

    private static void move() {
        says("move r, n (n from -12 to 12): r must be initialized (otherwise 1).").due("""
            move(0, 1) = -11; move(0, 0) = -11; move(0, -12) = -11; move(0, 12) = -11; move(0, 13) = -2; move(0, -13) = -2;
            set(0, 100) = 100; move(0, 12) = 112; move(0, -12) = 100; move(0, 13) = -2; move(0, -13) = -2;
            make(1, 12) = 0; move(1, 12) = 12; move(1, -12) = 0; move(1, 13) = -2; move(1, -13) = -2; undefined(1) = 4
            """);
        promise(6, "Carries out move.").due("set(0, 5) = 5; move(0, 2) = 7; register(0, 1) = 7; count(9) = 2; move(0, 0) = 7; count(9) = 3");
        eachRegister(6, REGISTER, "set(R, 3) = 3", "move(R, 1)", 4);
        for (int n = -12; n <= 12; n++) {
            promise(6, "`n`: -12 to 12").due("set(0, 1000) = 1000").due(1000 + n, "move", 0, n);
        }
        promise(6, "`n`: -12 to 12").due("set(0, 1000) = 1000")
            .all(-2, "move(0, 13); move(0, -13); move(0, 2147483647); move(0, -2147483648); move(0, 65536); move(0, -65536)")
            .due("register(0, 1) = 1000; count(9) = 1");
        promise(6, "Returns the number, or the offset, then; or BAD, the code of a reason.").due("""
            set(0, 9) = 9; move(0, -9) = 0; make(1, 4) = 0; make(1, 4) = 1; move(1, 3) = 3; move(1, -1) = 2; move(1, 3) = -15;
            move(2, 0) = -11; move(6, 0) = -2; copy(3, 1) = 2; move(3, -2) = 0; end(3) = 1; move(1, 0) = -13
            """);
    }

    private static void moveNumbers() {
        for (int n = -12; n <= 12; n++) {
            for (int number : new int[] {0, 1, 11, 12, 13, 255, 256, 65523, 65524, 65534, 65535}) {
                long due = ((number + n) % 65536 + 65536) % 65536;
                says("A number becomes (number + n) modulo 65536.").due(number, "set", 0, number).due(due, "move", 0, n)
                    .due(due, "register", 0, 1).due("register(0, 0) = 1; register(0, 2) = -1");
            }
        }
    }

    private static void movePointers() {
        for (int size : new int[] {1, 2, 11, 12}) {
            for (int offset = 0; offset <= size; offset++) {
                Script s = says("the offset becomes offset + n, which must be from 0 to the size (otherwise 5).");
                s.due("make(1, 12) = 0").due(1, "make", 0, size).due(offset, "move", 0, offset);
                for (int n = -12; n <= 12; n++) {
                    boolean inside = offset + n >= 0 && offset + n <= size;
                    s.due("copy(2, 0) = 2").due(inside ? offset + n : -15, "move", 2, n)
                        .due(inside ? offset + n : offset, "register", 2, 2).due("register(2, 1) = 1");
                }
            }
        }
        says("Of a pointer, whose block must be live (otherwise 3)").due("""
            make(0, 4) = 0; copy(1, 0) = 2; move(1, 2) = 2; end(0) = 0; move(1, 1) = -13; move(1, 0) = -13; move(1, -1) = -13;
            move(1, 12) = -13; move(0, 0) = -13; register(1, 2) = 2; make(0, 4) = 1; freeze(0) = 0; move(0, 4) = 4;
            back() = 4; back() = 3; back() = 2; back() = 1; move(1, 1) = 3
            """);
    }

    private static void store() {
        says("store r, q, w (w is 1 or 2): r must be valid for writing w bytes, q initialized (otherwise 1)").due("""
            store(0, 1, 1) = -11; set(0, 1) = 1; store(0, 0, 1) = -12; make(0, 2) = 0; store(0, 1, 1) = -11;
            store(0, 1, 2) = -11; store(0, 1, 3) = -2; store(0, 1, 0) = -2; set(1, 1) = 1; store(0, 1, 1) = 0;
            store(0, 1, 2) = 0; move(0, 1) = 1; store(0, 1, 1) = 1; store(0, 1, 2) = -15; move(0, 1) = 2;
            store(0, 1, 1) = -15; move(0, -2) = 0; copy(2, 0) = 2; freeze(0) = 0; store(0, 1, 1) = -14; back() = 4;
            end(0) = 0; store(2, 1, 1) = -13
            """);
        says("and a number if w is 1 (otherwise 7)").due("""
            make(0, 2) = 0; store(0, 0, 1) = -17; store(0, 0, 2) = 0; set(1, 5) = 5; store(0, 1, 1) = 0; store(0, 1, 2) = 0
            """);
        says("From the offset of r on, both halves of the pointer q are written").due("""
            make(0, 6) = 0; make(1, 7) = 1; move(1, 7) = 7; move(0, 4) = 4; store(0, 1, 2) = 4; at(0, 4) = 1107;
            at(0, 5) = 999; at(0, 3) = -1; move(0, -3) = 1; store(0, 0, 2) = 1; at(0, 1) = 1001; at(0, 2) = 999;
            at(0, 0) = -1; at(0, 3) = -1; move(0, -1) = 0; at(0, 1) = 1001; load(2, 0, 1) = -11; register(1, 2) = 7
            """);
        // pointers to ended and to constant blocks are written as well
        says("From the offset of r on, both halves of the pointer q are written").due("""
            make(0, 4) = 0; make(1, 2) = 1; make(2, 2) = 2; end(1) = 1; freeze(2) = 0; store(0, 1, 2) = 0; at(0, 0) = 1100;
            store(0, 2, 2) = 0; at(0, 0) = 1200; at(0, 1) = 999
            """);
        for (int number : new int[] {0, 1, 254, 255, 256, 257, 511, 512, 32767, 32768, 65279, 65280, 65534, 65535}) {
            says("or the lowest 8 bits of the number q and, for w = 2, then the next 8 bits.").due("make(0, 4) = 0; move(0, 1) = 1")
                .due(number, "set", 1, number).due("store(0, 1, 1) = 1").due(number % 256, "at", 0, 1)
                .due("at(0, 2) = -1; at(0, 0) = -1; store(0, 1, 2) = 1").due(number % 256, "at", 0, 1)
                .due(number / 256, "at", 0, 2).due("at(0, 0) = -1; at(0, 3) = -1").due(number, "register", 1, 1);
        }
    }

    private static void storePromise() {
        promise(7, "Carries out store.").due("""
            make(0, 2) = 0; set(1, 258) = 258; store(0, 1, 2) = 0; at(0, 0) = 2; at(0, 1) = 1; register(0, 2) = 0;
            register(1, 1) = 258; count(9) = 3
            """);
        eachRegister(7, REGISTER, "make(R, 2) = 0", "store(R, R, 2)", 0);
        eachRegister(7, OTHER, "make(5, 2) = 0; copy(R, 5) = 2", "store(5, R, 2)", 0);
        promise(7, OTHER).due("""
            make(0, 3) = 0; move(0, 1) = 1; store(0, 0, 2) = 1; at(0, 1) = 1001; at(0, 2) = 999; store(0, 0, 1) = -17;
            store(1, 1, 1) = -11; set(1, 1) = 1; store(1, 1, 1) = -12
            """);
        promise(7, "`w`: the number of bytes, 1 or 2").due("make(0, 12) = 0; set(1, 1) = 1; store(0, 1, 1) = 0; store(0, 1, 2) = 0")
            .all(-2, "store(0, 1, 0); store(0, 1, 3); store(0, 1, -1); store(0, 1, 2147483647); store(0, 1, -2147483648)")
            .all(-2, "store(0, 1, 4); store(0, 0, 3)").due("count(4) = 7; count(9) = 4");
        promise(7, "Returns the offset of r; or BAD, the code of a reason.").due("""
            make(0, 12) = 0; set(1, 1) = 1; store(0, 1, 2) = 0; move(0, 10) = 10; store(0, 1, 2) = 10; move(0, 1) = 11;
            store(0, 1, 1) = 11; store(0, 1, 2) = -15; move(0, 1) = 12; store(0, 1, 1) = -15; store(6, 1, 1) = -2
            """);
    }

    private static void load() {
        says("load r, q, w (w is 1 or 2): q must be valid for w bytes.").due("""
            load(0, 1, 1) = -11; set(1, 1) = 1; load(0, 1, 1) = -12; make(1, 3) = 0; set(2, 258) = 258; store(1, 2, 2) = 0;
            load(0, 1, 1) = 1; load(0, 1, 2) = 1; load(0, 1, 3) = -2; load(0, 1, 0) = -2; move(1, 1) = 1; store(1, 2, 2) = 1;
            move(1, 1) = 2; load(0, 1, 1) = 1; register(0, 1) = 1; load(0, 1, 2) = -15; move(1, 1) = 3; load(0, 1, 1) = -15;
            load(0, 1, 2) = -15; move(1, -3) = 0; copy(3, 1) = 2; freeze(1) = 0; load(0, 1, 2) = 1; back() = 4; back() = 3;
            end(1) = 0; load(0, 3, 1) = -13
            """);
        says("If w is 2 and the bytes are the first and the second half of a pointer, r becomes this pointer.").due("""
            make(0, 6) = 0; make(1, 12) = 1; move(1, 12) = 12; store(0, 1, 2) = 0; load(2, 0, 2) = 2; register(2, 0) = 2;
            register(2, 1) = 1; register(2, 2) = 12; load(2, 0, 1) = -16; move(0, 3) = 3; move(1, -12) = 0;
            store(0, 1, 2) = 3; load(2, 0, 2) = 2; register(2, 1) = 1; register(2, 2) = 0; end(2) = 1; load(3, 0, 2) = 2;
            register(3, 1) = 1; end(3) = -13
            """);
        says("Otherwise none of the bytes may be half a pointer (otherwise 6), none uninitialized (otherwise 1)").due("""
            make(0, 6) = 0; set(1, 9) = 9; move(0, 2) = 2; store(0, 0, 2) = 2; load(2, 0, 1) = -16; move(0, 1) = 3;
            load(2, 0, 1) = -16; load(2, 0, 2) = -16; move(0, -2) = 1; load(2, 0, 2) = -16; load(2, 0, 1) = -11;
            store(0, 1, 1) = 1; load(2, 0, 2) = -16; load(2, 0, 1) = 1; move(0, -1) = 0; load(2, 0, 2) = -11;
            load(2, 0, 1) = -11; move(0, 4) = 4; store(0, 0, 2) = 4; move(0, -1) = 3; load(2, 0, 2) = -16; undefined(6) = 6;
            undefined(1) = 3; register(2, 1) = 9
            """);
        says("none uninitialized (otherwise 1)").due("""
            make(0, 3) = 0; set(1, 9) = 9; store(0, 1, 1) = 0; load(2, 0, 2) = -11; load(2, 0, 1) = 1; move(0, 1) = 1;
            load(2, 0, 1) = -11; load(2, 0, 2) = -11; move(0, 1) = 2; store(0, 1, 1) = 2; move(0, -1) = 1;
            load(2, 0, 2) = -11; undefined(1) = 4
            """);
        for (int number : new int[] {0, 1, 255, 256, 258, 32768, 65280, 65535}) {
            says("and r becomes the number that they form, the first one the lowest 8 bits.").due("make(0, 3) = 0; move(0, 1) = 1")
                .due(number, "set", 1, number).due("store(0, 1, 2) = 1; load(2, 0, 2) = 1").due(number, "register", 2, 1)
                .due("load(2, 0, 1) = 1").due(number % 256, "register", 2, 1).due("register(2, 0) = 1; move(0, 1) = 2")
                .due("load(0, 0, 1) = 1").due(number / 256, "register", 0, 1);
        }
    }

    private static void loadPromise() {
        promise(8, "Carries out load.").due("""
            make(0, 2) = 0; set(1, 258) = 258; store(0, 1, 2) = 0; load(2, 0, 2) = 1; register(2, 1) = 258; at(0, 0) = 2;
            register(0, 2) = 0; count(9) = 4
            """);
        eachRegister(8, REGISTER, "make(5, 2) = 0; store(5, 5, 2) = 0", "load(R, 5, 2)", 2);
        eachRegister(8, OTHER, "make(R, 2) = 0; store(R, R, 2) = 0", "load(5, R, 2)", 2);
        promise(8, OTHER).due("""
            make(0, 2) = 0; set(1, 513) = 513; store(0, 1, 2) = 0; load(0, 0, 2) = 1; register(0, 0) = 1;
            register(0, 1) = 513; load(0, 0, 1) = -12; load(3, 3, 1) = -11
            """);
        promise(8, "`w`: the number of bytes, 1 or 2").due("make(0, 4) = 0; set(1, 1) = 1; store(0, 1, 2) = 0; load(2, 0, 1) = 1")
            .due("load(2, 0, 2) = 1")
            .all(-2, "load(2, 0, 0); load(2, 0, 3); load(2, 0, -1); load(2, 0, 2147483647); load(2, 0, -2147483648); load(2, 0, 4)")
            .due("count(4) = 6; count(9) = 5");
        promise(8, "Returns 1 if r is a number then, 2 if it is a pointer; or BAD, the code of a reason.").due("""
            make(0, 4) = 0; store(0, 0, 2) = 0; load(1, 0, 2) = 2; set(2, 0) = 0; store(0, 2, 2) = 0; load(1, 0, 2) = 1;
            load(1, 0, 1) = 1; load(1, 6, 1) = -2; load(1, 2, 1) = -12; move(0, 2) = 2; load(1, 0, 1) = -11; register(1, 1) = 0
            """);
    }

    private static void compare() {
        says("compare r, q: both must be initialized (otherwise 1)").due("""
            compare(0, 1) = -11; compare(0, 0) = -11; set(0, 1) = 1; compare(0, 1) = -11; compare(1, 0) = -11;
            make(2, 2) = 0; compare(2, 1) = -11; compare(1, 2) = -11; set(1, 1) = 1; compare(0, 1) = 1
            """);
        says("both numbers or both pointers (otherwise 7)").due("""
            set(0, 0) = 0; make(1, 2) = 0; compare(0, 1) = -17; compare(1, 0) = -17; compare(0, 0) = 1; compare(1, 1) = 1;
            end(1) = 0; compare(0, 1) = -17
            """);
        says("and pointers must be into the same block (otherwise 8), which may be ended.").due("""
            make(0, 2) = 0; make(1, 2) = 1; copy(2, 0) = 2; move(2, 2) = 2; compare(0, 1) = -18; compare(1, 0) = -18;
            compare(1, 2) = -18; compare(0, 2) = 0; end(0) = 0; compare(0, 2) = 0; compare(2, 0) = 2; compare(0, 0) = 1;
            compare(0, 1) = -18; end(1) = 1; compare(1, 0) = -18; compare(1, 1) = 1
            """);
        for (int a : new int[] {0, 1, 2, 255, 256, 32767, 32768, 65534, 65535}) {
            for (int b : new int[] {0, 1, 2, 255, 256, 32767, 32768, 65534, 65535}) {
                says("The result is 0, 1 or 2 if the number, or the offset, of r is less than, equal to or greater than that of q.")
                    .due(a, "set", 0, a).due(b, "set", 1, b).due(a < b ? 0 : a == b ? 1 : 2, "compare", 0, 1);
            }
        }
        for (int a = 0; a <= 3; a++) {
            for (int b = 0; b <= 3; b++) {
                says("The result is 0, 1 or 2 if the number, or the offset, of r is less than, equal to or greater than that of q.")
                    .due("make(0, 3) = 0; copy(1, 0) = 2").due(a, "move", 0, a).due(b, "move", 1, b)
                    .due(a < b ? 0 : a == b ? 1 : 2, "compare", 0, 1);
            }
        }
    }

    private static void comparePromise() {
        promise(9, "Carries out compare.").due("set(0, 1) = 1; set(1, 2) = 2; compare(0, 1) = 0; compare(1, 0) = 2; compare(0, 0) = 1");
        promise(9, "Nothing is changed.").due("""
            set(0, 1) = 1; set(1, 2) = 2; compare(0, 1) = 0; count(9) = 2; register(0, 1) = 1; register(1, 1) = 2;
            compare(0, 2) = -11; count(9) = 2; back() = 1; register(1, 0) = 0
            """);
        eachRegister(9, REGISTER, "set(5, 3) = 3; set(R, 3) = 3", "compare(R, 5)", 1);
        eachRegister(9, OTHER, "set(5, 3) = 3; set(R, 3) = 3", "compare(5, R)", 1);
        promise(9, OTHER).due("set(0, 3) = 3; compare(0, 0) = 1; make(0, 3) = 0; compare(0, 0) = 1; compare(1, 1) = -11");
        promise(9, "Returns the result, 0 to 2; or BAD, the code of a reason.").due("""
            make(0, 3) = 0; make(1, 3) = 1; set(2, 1) = 1; copy(3, 0) = 2; move(3, 1) = 1; compare(0, 3) = 0;
            compare(0, 0) = 1; compare(3, 0) = 2; compare(0, 6) = -2; compare(0, 1) = -18; compare(0, 2) = -17;
            compare(0, 4) = -11
            """);
    }

    private static void blit() {
        says("blit r, q, n (n from 1 to 12): r must be valid for writing n bytes, q valid for n bytes").due("""
            make(0, 12) = 0; make(1, 12) = 1; blit(0, 1, 1) = 1; blit(0, 1, 12) = 12; blit(0, 1, 0) = -2;
            blit(0, 1, 13) = -2; make(2, 3) = 2; blit(0, 2, 3) = 3; blit(0, 2, 4) = -15; blit(2, 0, 3) = 3;
            blit(2, 0, 4) = -15; freeze(2) = 0; blit(0, 2, 3) = 3; blit(2, 0, 3) = -14; copy(3, 1) = 2; end(1) = 1;
            blit(3, 0, 1) = -13; blit(0, 3, 1) = -13; set(4, 1) = 1; blit(0, 4, 1) = -12; blit(4, 0, 1) = -12;
            blit(0, 5, 1) = -11; blit(5, 0, 1) = -11
            """);
        // halves at the begin and at the end of what is carried: a pointer at the bytes 1 and 2, one at 3 and 4
        for (int from = 0; from < 6; from++) {
            for (int n = 1; from + n <= 6; n++) {
                int behind = from + n;
                boolean cut = from == 2 || from == 4 || behind == 2 || behind == 4;
                says("and there may be no half of a pointer among the n bytes of q without its other half (otherwise 6).").due("""
                    make(0, 6) = 0; make(1, 6) = 1; move(1, 1) = 1; store(1, 0, 2) = 1; move(1, 2) = 3; store(1, 0, 2) = 3;
                    move(1, -3) = 0
                    """).due(from, "move", 1, from).due(cut ? -16 : n, "blit", 0, 1, n)
                    .due(from % 2 == 1 && from < 5 && !cut ? 1000 : -1, "at", 0, 0).due(cut ? 1 : 0, "undefined", 6);
            }
        }
        says("The n bytes from the offset of r on become what those of q were before, uninitialized ones, too").due("""
            make(0, 6) = 0; make(1, 5) = 1; set(2, 1) = 1; move(0, 1) = 1; blit(1, 0, 5) = 5; store(1, 2, 1) = 0;
            move(1, 2) = 2; store(1, 1, 2) = 2; move(1, -2) = 0; set(2, 1285) = 1285; store(0, 2, 2) = 1; move(0, 2) = 3;
            store(0, 2, 2) = 3; move(0, 2) = 5; store(0, 2, 1) = 5; move(0, -4) = 1; blit(0, 1, 5) = 5; at(0, 0) = -1;
            at(0, 1) = 1; at(0, 2) = -1; at(0, 3) = 1102; at(0, 4) = 999; at(0, 5) = -1; at(1, 2) = 1102
            """);
        overlapping();
    }

    private static void overlapping() {
        for (int from = 0; from <= 4; from++) {
            for (int to = 0; to <= 4; to++) {
                int n = 8 - Math.max(from, to);
                Script s = says("(the bytes may overlap)").due("make(0, 8) = 0; copy(1, 0) = 2");
                for (int k = 0; k < 8; k++) {
                    s.due(k + 10, "set", 2, k + 10).due(k, "store", 1, 2, 1).due(k + 1, "move", 1, 1);
                }
                s.due(from, "move", 1, from - 8).due(to, "move", 0, to).due(n, "blit", 0, 1, n);
                for (int k = 0; k < 8; k++) {
                    boolean written = k >= to && k < to + n;
                    s.due(written ? k - to + from + 10 : k + 10, "at", 0, k);
                }
            }
        }
        says("(the bytes may overlap)").due("""
            make(0, 5) = 0; copy(1, 0) = 2; move(1, 1) = 1; store(0, 1, 2) = 0; blit(1, 0, 2) = 2; at(0, 0) = -1;
            at(0, 1) = 1001; at(0, 2) = 999; blit(0, 1, 2) = 2; at(0, 0) = 1001; at(0, 1) = 999; at(0, 2) = -1;
            blit(1, 0, 4) = 4; at(0, 0) = -1; at(0, 1) = 1001; at(0, 2) = 999; at(0, 3) = -1; at(0, 4) = -1
            """);
    }

    private static void blitPromise() {
        promise(10, "Carries out blit.").due("""
            make(0, 3) = 0; make(1, 3) = 1; set(2, 513) = 513; store(1, 2, 2) = 0; blit(0, 1, 2) = 2; at(0, 0) = 1;
            at(0, 1) = 2; at(1, 0) = 1; register(0, 2) = 0; register(1, 2) = 0; count(9) = 5
            """);
        eachRegister(10, REGISTER, "make(5, 2) = 0; copy(R, 5) = 2", "blit(R, 5, 2)", 2);
        eachRegister(10, OTHER, "make(5, 2) = 0; copy(R, 5) = 2", "blit(5, R, 2)", 2);
        promise(10, OTHER).due("""
            make(0, 4) = 0; store(0, 0, 2) = 0; blit(0, 0, 4) = 4; at(0, 0) = 1000; at(0, 1) = 999; blit(0, 0, 1) = -16;
            blit(0, 0, 5) = -15; blit(1, 1, 1) = -11; freeze(0) = 0; blit(0, 0, 4) = -14
            """);
        for (int n = 1; n <= 12; n++) {
            promise(10, "`n`: 1 to 12").due("make(0, 12) = 0; make(1, 12) = 1; set(2, 1) = 1; store(1, 2, 1) = 0").due(n, "blit", 0, 1, n)
                .due("at(0, 0) = 1; at(1, 0) = 1");
        }
        promise(10, "`n`: 1 to 12").due("make(0, 12) = 0; make(1, 12) = 1")
            .all(-2, "blit(0, 1, 0); blit(0, 1, 13); blit(0, 1, -1); blit(0, 1, 2147483647); blit(0, 1, -2147483648)")
            .due("count(4) = 5; count(9) = 2");
        promise(10, "Returns n; or BAD, the code of a reason.").due("""
            make(0, 4) = 0; make(1, 4) = 1; move(0, 1) = 1; blit(0, 1, 3) = 3; blit(0, 1, 2) = 2; blit(0, 1, 4) = -15;
            blit(6, 1, 1) = -2; blit(0, 6, 1) = -2; blit(2, 1, 1) = -11
            """);
    }

    private static void forget() {
        promise(12, "Makes a register uninitialized.").due("""
            set(0, 5) = 5; make(1, 4) = 0; move(1, 2) = 2; copy(2, 1) = 2; forget(0) = 1; register(0, 0) = 0;
            register(0, 1) = -1; register(0, 2) = -1; forget(1) = 2; register(1, 0) = 0; register(1, 1) = -1;
            register(1, 2) = -1; register(2, 2) = 2; piece(0, 1) = 1; move(0, 1) = -11; end(1) = -11
            """);
        eachRegister(12, REGISTER, "set(R, 3) = 3", "forget(R)", 1);
        promise(12, "Returns 0 if it was uninitialized before, 1 if it was a number, 2 if it was a pointer; or BAD.").due("""
            forget(0) = 0; forget(0) = 0; set(0, 0) = 0; forget(0) = 1; forget(0) = 0; make(0, 1) = 0; forget(0) = 2;
            forget(0) = 0; forget(6) = -2; forget(-1) = -2; count(9) = 5
            """);
    }

    private static void budget() {
        promise(13, "Sets the budget.").due("budget(2) = 40; count(3) = 2; budget(59) = 2; count(3) = 59")
            .does("s0 1;s0 2;s0 3;", 3).due("budget(2) = 59; does() = -500; budget(3) = 2; does() = 3");
        for (int v = 1; v <= 60; v++) {
            promise(13, "`v`: the new budget, 1 to 60").due(40, "budget", v).due(v, "count", 3);
        }
        promise(13, "`v`: the new budget, 1 to 60").all(-2, "budget(0); budget(61); budget(-1); budget(2147483647); budget(-2147483648)")
            .due("count(3) = 40; count(4) = 5; count(9) = 0");
        promise(13, "Returns the previous one; or BAD.").due("""
            budget(1) = 40; budget(60) = 1; budget(0) = -2; budget(61) = -2; budget(60) = 60; budget(7) = 60; back() = 3;
            budget(5) = 60
            """);
    }
}
