/** What the description says of blocks, bytes and registers, and of what is undefined. */
final class MemorySentences {
    private MemorySentences() { }

    static void run() {
        blocks();
        sizes();
        liveAndConstant();
        bytes();
        registers();
        numbers();
        offsets();
        eachReason();
        reasonNamedFirst();
        valid();
        validForBytes();
        validForWriting();
    }

    private static Script says(String words) {
        return Document.description(words);
    }

    private static void blocks() {
        String words = "There are at most 10 blocks, numbered from 0 in the order in which they are made.";
        says(words).due("""
            make(5, 2) = 0; make(4, 3) = 1; make(3, 2) = 2; make(2, 2) = 3; make(1, 2) = 4; make(0, 2) = 5; make(0, 2) = 6;
            make(0, 2) = 7; make(0, 2) = 8; make(0, 12) = 9; make(0, 2) = -4; count(0) = 10; register(5, 1) = 0;
            register(4, 1) = 1; piece(0, 0) = 2; piece(1, 0) = 3; piece(9, 0) = 12; piece(10, 0) = -2; at(9, 11) = -1
            """);
        says(words).due("""
            make(0, 1) = 0; end(0) = 0; make(0, 1) = 1; end(0) = 1; make(0, 1) = 2; end(0) = 2; make(0, 1) = 3; end(0) = 3;
            make(0, 1) = 4; end(0) = 4; make(0, 1) = 5; end(0) = 5; make(0, 1) = 6; end(0) = 6; make(0, 1) = 7; end(0) = 7;
            make(0, 1) = 8; end(0) = 8; make(0, 1) = 9; end(0) = 9; make(0, 1) = -4; count(0) = 10; count(2) = 0;
            back() = 4; back() = 3; count(0) = 9; make(0, 1) = 9; make(0, 1) = -4
            """);
    }

    private static void sizes() {
        says("A block has a size from 1 to 12 bytes").all(-2, "make(0, 0); make(0, 13); make(0, -1)").due("count(0) = 0");
        for (int n = 1; n <= 12; n++) {
            says("A block has a size from 1 to 12 bytes").due(0, "make", 0, n).due(n, "piece", 0, 0).due(-1, "at", 0, n - 1)
                .due(-2, "at", 0, n).due(n, "move", 0, n).due("move(0, 1) = -15").due(n, "piece", 0, 3);
        }
    }

    private static void liveAndConstant() {
        says("it is live, as at first, or ended").due("""
            make(0, 2) = 0; make(1, 2) = 1; piece(0, 1) = 1; piece(1, 1) = 1; end(0) = 0; piece(0, 1) = 0; piece(1, 1) = 1;
            freeze(1) = 0; piece(1, 1) = 1; back() = 3; back() = 2; piece(0, 1) = 1
            """);
        says("and constant or, as at first, not").due("""
            make(0, 2) = 0; make(1, 2) = 1; piece(0, 2) = 0; piece(1, 2) = 0; freeze(0) = 0; piece(0, 2) = 1;
            piece(1, 2) = 0; end(1) = 1; piece(1, 2) = 0; end(0) = -14; piece(0, 1) = 1; back() = 3; back() = 2;
            piece(0, 2) = 0; make(1, 2) = 2; piece(2, 2) = 0
            """);
    }

    private static void bytes() {
        says("A byte is uninitialized, as at first").due("""
            make(0, 12) = 0; at(0, 0) = -1; at(0, 1) = -1; at(0, 2) = -1; at(0, 3) = -1; at(0, 4) = -1; at(0, 5) = -1;
            at(0, 6) = -1; at(0, 7) = -1; at(0, 8) = -1; at(0, 9) = -1; at(0, 10) = -1; at(0, 11) = -1; piece(0, 3) = 12
            """);
        // the bytes of a block that is brought back away are not those of the next one
        says("A byte is uninitialized, as at first").due("""
            make(0, 2) = 0; set(1, 65535) = 65535; store(0, 1, 2) = 0; at(0, 1) = 255; back() = 2; back() = 1; back() = 0;
            make(0, 12) = 0; at(0, 0) = -1; at(0, 1) = -1; piece(0, 3) = 12
            """);
        says("or a number from 0 to 255").due("""
            make(0, 4) = 0; set(1, 0) = 0; store(0, 1, 1) = 0; at(0, 0) = 0; set(1, 255) = 255; store(0, 1, 1) = 0;
            at(0, 0) = 255; set(1, 256) = 256; store(0, 1, 1) = 0; at(0, 0) = 0; set(1, 65535) = 65535;
            store(0, 1, 1) = 0; at(0, 0) = 255; at(0, 1) = -1; store(0, 1, 2) = 0; at(0, 0) = 255; at(0, 1) = 255;
            set(1, 65280) = 65280; store(0, 1, 2) = 0; at(0, 0) = 0; at(0, 1) = 255
            """);
        says("or the first or the second half of a pointer").due("""
            make(0, 2) = 0; store(0, 0, 2) = 0; at(0, 0) = 1000; at(0, 1) = 999; piece(0, 4) = 1; piece(0, 3) = 0
            """);
    }

    private static void registers() {
        says("There are six registers, 0 to 5.").due("""
            set(0, 10) = 10; set(1, 11) = 11; set(2, 12) = 12; set(3, 13) = 13; set(4, 14) = 14; set(5, 15) = 15;
            set(6, 16) = -2; set(-1, 9) = -2; register(0, 1) = 10; register(1, 1) = 11; register(2, 1) = 12;
            register(3, 1) = 13; register(4, 1) = 14; register(5, 1) = 15; register(6, 1) = -2; register(-1, 1) = -2
            """);
        says("A register is uninitialized, as at first").due("""
            register(0, 0) = 0; register(1, 0) = 0; register(2, 0) = 0; register(3, 0) = 0; register(4, 0) = 0;
            register(5, 0) = 0; register(0, 1) = -1; register(5, 1) = -1; register(0, 2) = -1; register(5, 2) = -1
            """);
    }

    private static void numbers() {
        says("or holds a number from 0 to 65535").due("""
            set(0, 0) = 0; register(0, 1) = 0; set(0, 65535) = 65535; register(0, 1) = 65535; set(0, 65536) = -2;
            set(0, -1) = -2; move(0, 1) = 0; register(0, 1) = 0; move(0, -1) = 65535; register(0, 1) = 65535;
            make(1, 2) = 0; store(1, 0, 2) = 0; load(2, 1, 2) = 1; register(2, 1) = 65535; set(0, 0) = 0;
            store(1, 0, 2) = 0; load(2, 1, 2) = 1; register(2, 1) = 0; load(2, 1, 1) = 1; register(2, 1) = 0
            """);
    }

    private static void offsets() {
        for (int size = 1; size <= 12; size++) {
            says("or a pointer, which consists of a block and an offset from 0 to the size of the block")
                .due("make(0, 3) = 0").due(1, "make", 1, size).due("register(1, 1) = 1; register(1, 2) = 0; move(1, -1) = -15")
                .due(size, "move", 1, size).due(size, "register", 1, 2).due("move(1, 1) = -15; register(1, 1) = 1")
                .due(0, "move", 1, -size).due("register(1, 2) = 0").due(size < 12 ? -15 : -2, "move", 1, size + 1);
        }
    }

    private static void eachReason() {
        says("1 a value is uninitialized").all(-11, """
            end(0); move(0, 1); store(0, 0, 1); load(0, 1, 1); compare(0, 1); blit(0, 1, 1); freeze(0)
            """).due("make(0, 2) = 0").all(-11, "store(0, 1, 1); store(0, 1, 2); load(0, 0, 1); load(0, 0, 2); blit(0, 1, 1)")
            .due("undefined(1) = 12");
        says("2 a pointer is needed").due("set(0, 1) = 1").all(-12, """
            end(0); store(0, 0, 1); load(0, 0, 1); blit(0, 0, 1); freeze(0)
            """).due("make(1, 2) = 0; blit(1, 0, 1) = -12; undefined(2) = 6");
        says("3 a block is ended").due("make(0, 2) = 0; make(1, 2) = 1; store(0, 1, 2) = 0; end(1) = 1").all(-13, """
            end(1); move(1, 1); store(1, 0, 2); load(2, 1, 1); blit(1, 0, 2); blit(0, 1, 1); freeze(1); freeze(0)
            """).due("undefined(3) = 8");
        says("4 a block is constant").due("make(0, 2) = 0; freeze(0) = 0; set(1, 1) = 1").all(-14, """
            end(0); store(0, 1, 1); store(0, 0, 2); blit(0, 0, 2)
            """).due("undefined(4) = 4");
        says("5 an offset is out of the block").due("make(0, 2) = 0; move(0, 1) = 1; set(1, 1) = 1").all(-15, """
            move(0, 2); move(0, -2); store(0, 1, 2); load(2, 0, 2); blit(0, 0, 2)
            """).due("make(2, 4) = 1; blit(2, 0, 2) = -15; blit(0, 2, 2) = -15; undefined(5) = 7");
        says("6 half a pointer").due("make(0, 4) = 0; store(0, 0, 2) = 0; load(1, 0, 1) = -16; make(2, 2) = 1")
            .due("blit(2, 0, 1) = -16; move(0, 1) = 1").all(-16, "load(1, 0, 1); load(1, 0, 2); blit(2, 0, 1); blit(2, 0, 2)")
            .due("undefined(6) = 6");
        says("7 a number is needed").due("make(0, 4) = 0; set(1, 1) = 1").all(-17, """
            store(0, 0, 1); compare(0, 1); compare(1, 0)
            """).due("undefined(7) = 3");
        says("8 pointers into different blocks").due("make(0, 4) = 0; make(1, 4) = 1").all(-18, "compare(0, 1); compare(1, 0)")
            .due("undefined(8) = 2");
        says("9 a pointer is not to the begin of its block.").due("make(0, 4) = 0; move(0, 1) = 1").all(-19, "end(0); freeze(0)")
            .due("move(0, 3) = 4").all(-19, "end(0); freeze(0)").due("move(0, -4) = 0; undefined(9) = 4; freeze(0) = 0");
    }

    private static void reasonNamedFirst() {
        String words = "If an operation is undefined for several reasons, the one named first counts.";
        // 0: block 0, offset 3 of 4; 1: block 1, offset 2, ended; 2: block 2, offset 2 of 2, constant; 3: a number
        String things = """
            make(0, 4) = 0; make(1, 4) = 1; copy(4, 1) = 2; move(1, 2) = 2; end(4) = 1; forget(4) = 2; make(2, 2) = 2;
            freeze(2) = 0; move(2, 2) = 2; move(0, 3) = 3; set(3, 1) = 1;
            """;
        says(words).due(things).due("end(1) = -13; end(2) = -19; end(0) = -19");
        says(words).due(things).due("move(1, 12) = -13; move(1, -12) = -13; move(2, 12) = -15");
        says(words).due(things).due("""
            store(4, 4, 1) = -11; store(3, 4, 1) = -12; store(1, 4, 2) = -13; store(1, 0, 1) = -13; store(2, 4, 1) = -14;
            store(2, 0, 1) = -14; store(0, 4, 2) = -15; store(0, 4, 1) = -11; move(0, 1) = 4; store(0, 0, 1) = -15;
            store(0, 4, 1) = -15
            """);
        says(words).due(things).due("""
            load(4, 4, 2) = -11; load(4, 1, 2) = -13; load(4, 0, 2) = -15; load(4, 0, 1) = -11; move(0, -1) = 2;
            store(0, 0, 2) = 2; move(0, -1) = 1; load(4, 0, 2) = -16; move(0, 2) = 3; load(4, 0, 2) = -15;
            move(0, -1) = 2; back() = 4; back() = 3; back() = 2; copy(5, 0) = 2; move(5, -2) = 0; store(5, 5, 2) = 0;
            move(5, 1) = 1; load(4, 5, 2) = -16
            """);
        says(words).due(things).due("compare(4, 0) = -11; compare(3, 4) = -11; compare(4, 4) = -11; compare(3, 1) = -17");
        says(words).due(things).due("""
            blit(4, 3, 1) = -11; blit(3, 4, 1) = -12; blit(1, 4, 12) = -13; blit(2, 4, 12) = -14; blit(2, 1, 1) = -14;
            blit(0, 4, 12) = -15; blit(0, 1, 2) = -15; blit(0, 4, 1) = -11; blit(0, 3, 1) = -12; blit(0, 1, 1) = -13;
            blit(0, 1, 12) = -15; blit(0, 2, 1) = -15; move(0, -3) = 0; store(0, 0, 2) = 0; copy(5, 0) = 2;
            move(5, 1) = 1; blit(0, 5, 4) = -15; blit(0, 5, 3) = -16
            """);
        says(words).due(things).due("""
            freeze(4) = -11; freeze(3) = -12; freeze(1) = -13; copy(5, 0) = 2; move(5, -3) = 0; store(5, 1, 2) = 0;
            freeze(0) = -19; freeze(5) = -13
            """);
    }

    private static void valid() {
        says("A register is valid if it holds a pointer (otherwise reason 1 if it is uninitialized")
            .all(-11, "end(0); store(0, 0, 1); load(1, 0, 1); blit(0, 0, 1); freeze(0)").due("make(1, 2) = 0; blit(1, 0, 1) = -11");
        says("2 if it holds a number").due("set(0, 0) = 0")
            .all(-12, "end(0); store(0, 0, 1); load(1, 0, 1); blit(0, 0, 1); freeze(0)").due("make(1, 2) = 0; blit(1, 0, 1) = -12");
        says("to a live block (otherwise 3)").due("make(0, 2) = 0; make(1, 2) = 1; end(0) = 0")
            .all(-13, "end(0); store(0, 1, 2); load(2, 0, 1); blit(0, 1, 1); blit(1, 0, 1); freeze(0)")
            .due("set(2, 1) = 1; store(1, 2, 1) = 0; load(2, 1, 1) = 1; blit(1, 1, 1) = 1; freeze(1) = 0");
    }

    /** Register 0 points into block 0 with all sizes and offsets, register 1 to the begin of 12 numbers. */
    private static void validForBytes() {
        for (int size = 1; size <= 12; size++) {
            for (int offset = 0; offset <= size; offset++) {
                Script s = says("it is valid for w bytes if, besides, its offset plus w is at most the size of the block (otherwise 5)");
                s.due(0, "make", 0, size).due("make(1, 12) = 1; set(2, 513) = 513; copy(3, 1) = 2");
                for (int k = 0; k < 12; k += 2) {
                    s.due(k, "store", 3, 2, 2).due(k + 2, "move", 3, 2);
                }
                s.due(size, "blit", 0, 1, size).due(offset, "move", 0, offset);
                for (int w = 1; w <= 12; w++) {
                    boolean inside = offset + w <= size;
                    if (w <= 2) {
                        s.due(inside ? 1 : -15, "load", 4, 0, w).due(inside ? offset : -15, "store", 0, 2, w);
                    }
                    s.due(inside ? w : -15, "blit", 0, 1, w).due(inside ? w : -15, "blit", 1, 0, w);
                }
            }
        }
    }

    private static void validForWriting() {
        String words = "it is valid for writing w bytes if it is valid, its block is not constant (otherwise 4), and it is valid for w bytes.";
        says(words).due("""
            make(0, 3) = 0; make(1, 12) = 1; set(2, 1) = 1; store(0, 2, 2) = 0; store(1, 2, 2) = 0; blit(0, 1, 3) = 3;
            blit(0, 1, 4) = -15; freeze(0) = 0; store(0, 2, 1) = -14; store(0, 2, 2) = -14; blit(0, 1, 1) = -14;
            blit(0, 1, 3) = -14; blit(0, 1, 4) = -14; blit(0, 0, 12) = -14; move(0, 3) = 3; store(0, 2, 1) = -14;
            blit(0, 1, 1) = -14; move(0, -3) = 0; load(3, 0, 2) = 1; load(3, 0, 1) = 1; blit(1, 0, 3) = 3;
            blit(1, 0, 4) = -15
            """);
        // a pointer that is copied or loaded knows its block as well
        says(words).due("""
            make(0, 2) = 0; make(1, 2) = 1; store(1, 0, 2) = 0; freeze(0) = 0; load(3, 1, 2) = 2; set(2, 1) = 1;
            store(3, 2, 1) = -14; store(1, 2, 1) = 0; copy(4, 3) = 2; blit(4, 1, 1) = -14
            """);
    }
}
