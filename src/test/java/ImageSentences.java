/** What the description says of images and codes of bytes, and the promises 11 and 15 to 19. */
final class ImageSentences {
    private ImageSentences() { }

    static void run() {
        freeze();
        freezePromise();
        reached();
        nodes();
        sizesAndBytes();
        equalImages();
        differentInOneByte();
        numbering();
        atMostEight();
        codes();
        piece();
        at();
        image();
        imaged();
        like();
    }

    private static Script says(String words) {
        return Document.description(words);
    }

    private static Script promise(int number, String words) {
        return Document.promise(number, words);
    }

    private static void freeze() {
        says("freeze r: r must be valid with the offset 0 (otherwise 9)").due("""
            freeze(0) = -11; set(0, 0) = 0; freeze(0) = -12; make(0, 2) = 0; move(0, 1) = 1; freeze(0) = -19; move(0, 1) = 2;
            freeze(0) = -19; count(1) = 0; piece(0, 2) = 0; move(0, -2) = 0; freeze(0) = 0; move(0, 1) = 1; freeze(0) = -19;
            make(0, 2) = 1; copy(1, 0) = 2; move(1, 1) = 1; end(0) = 1; freeze(0) = -13; freeze(1) = -13
            """);
        says("and all blocks that are reached from its block must be live (otherwise 3).").due("""
            make(0, 2) = 0; make(1, 2) = 1; make(2, 2) = 2; make(3, 2) = 3; store(0, 1, 2) = 0; store(1, 2, 2) = 0;
            end(3) = 3; freeze(0) = 0; back() = 4; end(2) = 2; freeze(0) = -13; freeze(1) = -13; count(1) = 0;
            piece(0, 2) = 0; piece(1, 2) = 0; back() = 4; end(1) = 1; freeze(0) = -13; freeze(2) = 0; like(0) = -3;
            undefined(3) = 3
            """);
        says("The result is the number of the image of the block").due("""
            make(0, 1) = 0; make(1, 2) = 1; make(2, 1) = 2; make(3, 3) = 3; freeze(0) = 0; freeze(1) = 1; freeze(2) = 0;
            freeze(3) = 2; freeze(1) = 1; freeze(0) = 0
            """);
        says("all blocks that are reached become constant.").due("""
            make(0, 2) = 0; make(1, 2) = 1; make(2, 2) = 2; make(3, 2) = 3; store(0, 1, 2) = 0; store(1, 2, 2) = 0;
            store(3, 0, 2) = 0; set(5, 1) = 1; freeze(0) = 0; piece(0, 2) = 1; piece(1, 2) = 1; piece(2, 2) = 1;
            piece(3, 2) = 0; store(2, 5, 1) = -14; end(1) = -14; store(3, 5, 1) = 0
            """);
        // also if the image is not new
        says("all blocks that are reached become constant.").due("""
            make(0, 2) = 0; make(1, 2) = 1; store(0, 1, 2) = 0; freeze(0) = 0; make(0, 2) = 2; make(1, 2) = 3;
            store(0, 1, 2) = 0; freeze(0) = 0; piece(2, 2) = 1; piece(3, 2) = 1; count(1) = 1
            """);
    }

    private static void freezePromise() {
        promise(11, "Carries out freeze.").due("""
            make(0, 2) = 0; freeze(0) = 0; count(1) = 1; piece(0, 2) = 1; piece(0, 1) = 1; register(0, 0) = 2; count(9) = 2
            """);
        for (int r = 0; r <= 5; r++) {
            promise(11, "`r`: the register, 0 to 5").due(0, "make", r, 2).due(0, "freeze", r);
        }
        promise(11, "`r`: the register, 0 to 5").all(-2, "freeze(-1); freeze(6); freeze(2147483647); freeze(-2147483648)");
        promise(11, "Returns the number of the image; or BAD, the code of a reason, FULL if it would be a ninth image.").due("""
            make(0, 1) = 0; freeze(0) = 0; make(0, 2) = 1; freeze(0) = 1; make(0, 3) = 2; freeze(0) = 2; make(0, 4) = 3;
            freeze(0) = 3; make(0, 5) = 4; freeze(0) = 4; make(0, 6) = 5; freeze(0) = 5; make(0, 7) = 6; freeze(0) = 6;
            make(0, 8) = 7; freeze(0) = 7; count(1) = 8; make(0, 9) = 8; freeze(0) = -4; count(6) = 1; count(1) = 8;
            piece(8, 2) = 0; make(1, 4) = 9; freeze(1) = 3; piece(9, 2) = 1; freeze(6) = -2; freeze(5) = -11;
            set(5, 1) = 1; freeze(5) = -12; move(0, 1) = 1; freeze(0) = -19; move(0, -1) = 0; freeze(0) = -4; end(0) = 8;
            freeze(0) = -13; count(6) = 2
            """);
        promise(11, "FULL if it would be a ninth image.").due("""
            make(0, 1) = 0; freeze(0) = 0; make(0, 2) = 1; freeze(0) = 1; make(0, 3) = 2; freeze(0) = 2; make(0, 4) = 3;
            freeze(0) = 3; make(0, 5) = 4; freeze(0) = 4; make(0, 6) = 5; freeze(0) = 5; make(0, 7) = 6; freeze(0) = 6;
            make(1, 2) = 7; make(2, 2) = 8; make(3, 12) = 9; end(2) = 8; store(1, 2, 2) = 0; freeze(3) = 7; freeze(1) = -13;
            back() = 4; freeze(3) = 7; store(3, 3, 2) = -14; back() = 4; store(3, 3, 2) = 0; freeze(3) = 7; freeze(3) = 7
            """);
    }

    private static void reached() {
        String words = "From a block, itself and all blocks to which pointers among the bytes of reached blocks lead are reached.";
        says(words).due("make(0, 2) = 0; make(1, 2) = 1; piece(0, 5) = 1; store(0, 0, 2) = 0; piece(0, 5) = 1; piece(1, 5) = 1");
        says(words).due("""
            make(0, 4) = 0; make(1, 2) = 1; make(2, 2) = 2; make(3, 2) = 3; store(0, 1, 2) = 0; piece(0, 5) = 2;
            move(0, 2) = 2; store(0, 1, 2) = 2; piece(0, 5) = 2; store(0, 2, 2) = 2; piece(0, 5) = 3; store(2, 3, 2) = 0;
            piece(0, 5) = 4; piece(1, 5) = 1; piece(2, 5) = 2; piece(3, 5) = 1; store(3, 0, 2) = 0; piece(3, 5) = 4;
            piece(1, 5) = 1; store(1, 1, 2) = 0; piece(1, 5) = 1; set(4, 0) = 0; store(2, 4, 1) = 0; piece(0, 5) = 3
            """);
        // pointers in ended blocks lead on, and so do pointers to the end of a block
        says(words).due("""
            make(0, 2) = 0; make(1, 2) = 1; make(2, 2) = 2; move(2, 2) = 2; store(1, 2, 2) = 0; store(0, 1, 2) = 0;
            piece(0, 5) = 3; end(1) = 1; piece(0, 5) = 3; piece(1, 5) = 2; move(2, -2) = 0; end(2) = 2; piece(0, 5) = 3
            """);
        // a chain through all ten blocks, against the order of their numbers
        Script chain = says(words).due("make(0, 2) = 0");
        for (int p = 1; p < 10; p++) {
            chain.due("copy(1, 0) = 2").due(p, "make", 0, 2).due("store(0, 1, 2) = 0").due(p + 1, "piece", p, 5);
        }
        chain.due("piece(0, 5) = 1; freeze(0) = 0; image(0, 0) = 10; image(0, 1) = 20; image(0, 2) = 9; count(2) = 10")
            .due("piece(0, 2) = 1; imaged(0, 8, 0) = 1900; imaged(0, 9, 0) = -1; imaged(0, 10, 0) = -2");
    }

    private static void nodes() {
        String words = "The image of a block has the reached blocks as nodes, numbered from 0: first the block itself; then, "
            + "node by node, byte by byte, the block of each pointer, if it is not yet a node, as the next one.";
        // sizes tell the blocks apart: 4 -> 2, 3 (its second pointer first made); 2 -> 5; 3 -> 4, 6
        says(words).due("""
            make(0, 4) = 0; make(1, 3) = 1; make(2, 2) = 2; make(3, 6) = 3; make(4, 5) = 4; move(0, 2) = 2;
            store(0, 1, 2) = 2; move(0, -2) = 0; store(0, 2, 2) = 0; store(2, 4, 2) = 0; store(4, 3, 2) = 0;
            store(1, 0, 2) = 0; freeze(0) = 0; image(0, 0) = 5; image(0, 1) = 20; imaged(0, 0, 0) = 1100;
            imaged(0, 0, 2) = 1200; imaged(0, 1, 1) = 999; imaged(0, 1, 2) = -5; imaged(0, 1, 0) = 1300;
            imaged(0, 2, 2) = -1; imaged(0, 2, 3) = -5; imaged(0, 2, 0) = 1000; imaged(0, 3, 4) = -1;
            imaged(0, 3, 5) = -5; imaged(0, 3, 0) = 1400; imaged(0, 4, 5) = -1; imaged(0, 4, 6) = -5
            """);
        // breadth first: the second pointer of node 0 comes before the pointers of node 1
        says(words).due("""
            make(0, 4) = 0; make(1, 3) = 1; make(2, 5) = 2; make(3, 7) = 3; store(0, 3, 2) = 0; move(0, 2) = 2;
            store(0, 1, 2) = 2; move(0, -2) = 0; store(3, 2, 2) = 0; freeze(0) = 0; imaged(0, 1, 6) = -1;
            imaged(0, 1, 7) = -5; imaged(0, 2, 2) = -1; imaged(0, 2, 3) = -5; imaged(0, 3, 4) = -1; imaged(0, 3, 5) = -5;
            imaged(0, 1, 0) = 1300; freeze(3) = 1; imaged(1, 0, 0) = 1100; imaged(1, 1, 4) = -1; imaged(1, 2, 0) = -2
            """);
        // the block itself and a node again are no new nodes
        says("if it is not yet a node, as the next one.").due("""
            make(0, 6) = 0; make(1, 2) = 1; store(0, 0, 2) = 0; move(0, 2) = 2; store(0, 1, 2) = 2; move(0, 2) = 4;
            store(0, 1, 2) = 4; store(1, 1, 2) = 0; move(0, -4) = 0; freeze(0) = 0; image(0, 0) = 2; image(0, 2) = 4;
            imaged(0, 0, 0) = 1000; imaged(0, 0, 2) = 1100; imaged(0, 0, 4) = 1100; imaged(0, 1, 0) = 1100
            """);
    }

    private static void sizesAndBytes() {
        says("It consists of the sizes and the bytes of all nodes, with pointers given by node and offset.").due("""
            make(5, 1) = 0; make(0, 6) = 1; make(1, 3) = 2; move(1, 3) = 3; set(2, 300) = 300; store(0, 1, 2) = 0;
            move(0, 3) = 3; store(0, 2, 2) = 3; move(0, -3) = 0; freeze(0) = 0; at(1, 0) = 1203; imaged(0, 0, 0) = 1103;
            imaged(0, 0, 1) = 999; imaged(0, 0, 2) = -1; imaged(0, 0, 3) = 44; imaged(0, 0, 4) = 1; imaged(0, 0, 5) = -1;
            imaged(0, 0, 6) = -5; imaged(0, 1, 0) = -1; imaged(0, 1, 2) = -1; imaged(0, 1, 3) = -5; imaged(0, 2, 0) = -2;
            image(0, 0) = 2; image(0, 1) = 9; image(0, 2) = 1
            """);
    }

    /** Pairs of blocks; each pair ends with registers 0 and 1 at the begin of the two. */
    private static void equalImages() {
        String words = "Images that are equal in all this are the same";
        // pointers into different blocks, that are the same nodes
        says(words).due("""
            make(0, 2) = 0; make(2, 3) = 1; make(3, 3) = 2; make(1, 2) = 3; store(0, 2, 2) = 0; store(1, 3, 2) = 0;
            freeze(0) = 0; like(3) = 0; freeze(1) = 0; count(1) = 1
            """);
        // one block shared, and two that are equal
        says(words).due("""
            make(0, 4) = 0; make(1, 4) = 1; make(2, 2) = 2; make(3, 2) = 3; store(0, 2, 2) = 0; store(1, 2, 2) = 0;
            move(0, 2) = 2; move(1, 2) = 2; store(0, 2, 2) = 2; store(1, 3, 2) = 2; move(0, -2) = 0; move(1, -2) = 0;
            freeze(0) = 0; like(1) = -1; freeze(1) = 1; image(0, 0) = 2; image(1, 0) = 3
            """);
        // a ring of two is not a block that points to itself
        says(words).due("""
            make(0, 2) = 0; make(1, 2) = 1; make(2, 2) = 2; store(0, 1, 2) = 0; store(1, 0, 2) = 0; store(2, 2, 2) = 0;
            freeze(0) = 0; freeze(1) = 0; freeze(2) = 1; count(1) = 2
            """);
        // sizes, of the block and of a node
        says(words).due("make(0, 2) = 0; make(1, 3) = 1; freeze(0) = 0; like(1) = -1; freeze(1) = 1");
        says(words).due("""
            make(0, 2) = 0; make(1, 2) = 1; make(2, 3) = 2; make(3, 4) = 3; store(0, 2, 2) = 0; store(1, 3, 2) = 0;
            freeze(0) = 0; like(1) = -1; freeze(1) = 1
            """);
        // a byte, of the block and of a node, initialized or not
        says(words).due("""
            make(0, 2) = 0; make(1, 2) = 1; make(2, 2) = 2; make(3, 2) = 3; set(4, 0) = 0; store(1, 4, 1) = 0;
            store(2, 4, 2) = 0; set(4, 256) = 256; store(3, 4, 2) = 0; freeze(0) = 0; freeze(1) = 1; freeze(2) = 2;
            freeze(3) = 3; like(0) = 0; like(3) = 3
            """);
        says(words).due("""
            make(0, 2) = 0; make(1, 2) = 1; make(2, 2) = 2; make(3, 2) = 3; store(0, 2, 2) = 0; store(1, 3, 2) = 0;
            set(4, 1) = 1; move(3, 1) = 1; store(3, 4, 1) = 1; freeze(0) = 0; like(1) = -1; move(2, 1) = 1;
            freeze(1) = 1; imaged(1, 1, 1) = 1
            """);
        // the offset of a pointer, and which node it leads to
        says(words).due("""
            make(0, 2) = 0; make(1, 2) = 1; make(2, 2) = 2; store(0, 2, 2) = 0; move(2, 1) = 1; store(1, 2, 2) = 0;
            freeze(0) = 0; like(1) = -1; freeze(1) = 1
            """);
        says(words).due("""
            make(0, 2) = 0; make(1, 2) = 1; make(2, 2) = 2; make(3, 2) = 3; store(0, 2, 2) = 0; store(2, 0, 2) = 0;
            store(1, 3, 2) = 0; store(3, 3, 2) = 0; freeze(0) = 0; like(1) = -1; freeze(1) = 1; imaged(0, 1, 0) = 1000;
            imaged(1, 1, 0) = 1100
            """);
    }

    /** Two chains of five blocks of 12 bytes: equal, and with one byte that is not, at all places. */
    private static void differentInOneByte() {
        Script equal = says("Images that are equal in all this are the same");
        chain(equal, 0, -1, 0);
        equal.due("copy(5, 0) = 2; freeze(5) = 0");
        chain(equal, 5, -1, 0);
        equal.due("like(9) = 0; freeze(0) = 0; count(1) = 1; image(0, 0) = 5; image(0, 1) = 60");
        for (int node = 0; node < 5; node++) {
            for (int k = 0; k < 12; k++) {
                Script s = says("It consists of the sizes and the bytes of all nodes");
                chain(s, 0, -1, 0);
                s.due("copy(5, 0) = 2");
                chain(s, 5, node, k);
                s.due("freeze(5) = 0; like(9) = -1; like(4) = 0; freeze(0) = 1; like(9) = 1; like(4) = 0");
            }
        }
    }

    /** Makes blocks from this one on, each with a pointer to the one before it; register 0 points to the last. */
    private static void chain(Script s, int first, int nodeWithNumber, int k) {
        for (int node = 4; node >= 0; node--) {
            s.due(first + 4 - node, "make", 1, 12);
            if (node < 4) {
                s.due("store(1, 0, 2) = 0");
            }
            if (node == nodeWithNumber) {
                s.due("set(2, 7) = 7").due(k, "move", 1, k).due(k, "store", 1, 2, 1).due(0, "move", 1, -k);
            }
            s.due("copy(0, 1) = 2");
        }
    }

    private static void numbering() {
        // an image is not numbered anew, with however many others there are
        Script again = says("they are numbered from 0 in the order in which they are first frozen");
        for (int i = 0; i < 8; i++) {
            again.due(i, "make", i % 5, i + 1).due(i, "freeze", i % 5);
            for (int earlier = Math.max(0, i - 4); earlier <= i; earlier++) {
                again.due(earlier, "freeze", earlier % 5).due(i + 1, "count", 1).due(earlier, "like", earlier);
            }
        }
        says("they are numbered from 0 in the order in which they are first frozen").due("""
            make(0, 3) = 0; make(1, 2) = 1; make(2, 1) = 2; freeze(2) = 0; freeze(0) = 1; freeze(2) = 0; freeze(1) = 2;
            image(0, 1) = 1; image(1, 1) = 3; image(2, 1) = 2; count(1) = 3; back() = 4; back() = 3; back() = 2;
            count(1) = 1; freeze(1) = 1; freeze(0) = 2; image(1, 1) = 2; image(2, 1) = 3
            """);
        // the blocks that are reached have no images of their own
        says("they are numbered from 0 in the order in which they are first frozen").due("""
            make(0, 2) = 0; make(1, 3) = 1; store(0, 1, 2) = 0; freeze(0) = 0; count(1) = 1; like(1) = -1; freeze(1) = 1
            """);
    }

    private static void atMostEight() {
        Script s = says("and there are at most 8.");
        for (int i = 0; i < 8; i++) {
            s.due(i, "make", 0, i + 1).due(i, "freeze", 0).due(i + 1, "count", 1);
        }
        s.due("make(0, 12) = 8; like(8) = -1; freeze(0) = -4; count(1) = 8; image(7, 1) = 8; image(8, 0) = -2; imaged(8, 0, 0) = -2");
        s.due("make(1, 8) = 9; freeze(1) = 7; count(1) = 8; back() = 4; back() = 3; back() = 2; back() = 1; count(1) = 7");
        s.due("image(7, 0) = -2; count(0) = 8");
    }

    private static void codes() {
        says("The code of a byte is NONE if it is uninitialized, the number 0 to 255").due("""
            make(0, 4) = 0; at(0, 0) = -1; set(1, 255) = 255; store(0, 1, 2) = 0; at(0, 0) = 255; at(0, 1) = 0;
            freeze(0) = 0; imaged(0, 0, 0) = 255; imaged(0, 0, 1) = 0; imaged(0, 0, 2) = -1
            """);
        for (int p = 0; p < 10; p++) {
            Script s = says("1000 + 100 * block + offset for the first half of a pointer").due("make(0, 2) = 0");
            for (int other = 1; other < 10; other++) {
                s.due(other, "make", other == p ? 1 : 2, 12);
            }
            s.due(p == 0 ? "copy(1, 0) = 2" : "register(1, 0) = 2");
            for (int offset : p == 0 ? new int[] {0, 1, 2} : new int[] {0, 1, 11, 12}) {
                long at = s.ask("register", 1, 2);
                s.due(offset, "move", 1, (int) (offset - at)).due("store(0, 1, 2) = 0; at(0, 1) = 999")
                    .due(1000 + 100 * p + offset, "at", 0, 0);
            }
        }
        says("(in an image: node instead of block)").due("""
            make(0, 2) = 0; make(0, 2) = 1; make(1, 12) = 2; move(1, 12) = 12; store(0, 1, 2) = 0; at(1, 0) = 1212;
            freeze(0) = 0; imaged(0, 0, 0) = 1112; imaged(0, 0, 1) = 999; at(1, 0) = 1212
            """);
        says("and 999 for a second half.").due("""
            make(0, 3) = 0; move(0, 1) = 1; store(0, 0, 2) = 1; at(0, 0) = -1; at(0, 1) = 1001; at(0, 2) = 999;
            move(0, -1) = 0; freeze(0) = 0; imaged(0, 0, 1) = 1001; imaged(0, 0, 2) = 999
            """);
    }

    private static void piece() {
        promise(15, "Returns a property of a block.").due("make(0, 5) = 0; piece(0, 0) = 5; piece(0, 1) = 1; count(9) = 1");
        promise(15, "`p`: the block").due("""
            piece(0, 0) = -2; make(0, 5) = 0; make(0, 6) = 1; piece(0, 0) = 5; piece(1, 0) = 6; piece(2, 0) = -2;
            piece(-1, 0) = -2; piece(2147483647, 0) = -2; piece(-2147483648, 5) = -2; piece(2, 5) = -2; piece(-1, 5) = -2;
            back() = 1; piece(1, 0) = -2; piece(1, 5) = -2
            """);
        Script full = promise(15, "`p`: the block");
        for (int p = 0; p < 10; p++) {
            full.due(-2, "piece", p, 0).due(p, "make", 0, p + 1).due(p + 1, "piece", p, 0).due(1, "piece", p, 5);
        }
        full.due("piece(10, 0) = -2; piece(10, 5) = -2");
        promise(15, "`what`: 0 the size, 1 1 if it is live, else 0, 2 1 if it is constant, else 0").due("""
            make(0, 5) = 0; make(1, 12) = 1; piece(0, 0) = 5; piece(1, 0) = 12; piece(0, 1) = 1; piece(0, 2) = 0; end(0) = 0;
            piece(0, 0) = 5; piece(0, 1) = 0; piece(0, 2) = 0; freeze(1) = 0; piece(1, 1) = 1; piece(1, 2) = 1
            """);
        promise(15, "3 how many of its bytes are uninitialized, 4 how many pointers are in it").due("""
            make(0, 12) = 0; piece(0, 3) = 12; piece(0, 4) = 0; store(0, 0, 2) = 0; piece(0, 3) = 10; piece(0, 4) = 1;
            set(1, 0) = 0; move(0, 2) = 2; store(0, 1, 1) = 2; piece(0, 3) = 9; move(0, 1) = 3; store(0, 0, 2) = 3;
            piece(0, 3) = 7; piece(0, 4) = 2; move(0, 1) = 4; store(0, 1, 1) = 4; piece(0, 3) = 8; piece(0, 4) = 1;
            move(0, -4) = 0; end(0) = 0; piece(0, 3) = 8; piece(0, 4) = 1; make(0, 1) = 1; piece(1, 3) = 1;
            store(0, 1, 1) = 0; piece(1, 3) = 0
            """);
        promise(15, "5 how many blocks are reached from it (ended ones, too)").due("""
            make(0, 4) = 0; make(1, 2) = 1; make(2, 2) = 2; piece(0, 5) = 1; store(0, 1, 2) = 0; piece(0, 5) = 2;
            store(1, 2, 2) = 0; piece(0, 5) = 3; end(1) = 1; piece(0, 5) = 3; piece(1, 5) = 2; end(2) = 2; piece(0, 5) = 3;
            end(0) = 0; piece(0, 5) = 3; piece(2, 5) = 1
            """);
        promise(15, "Returns the property; or BAD.").due("make(0, 5) = 0; piece(0, 0) = 5; piece(0, 5) = 1")
            .all(-2, "piece(0, 6); piece(0, -1); piece(0, 2147483647); piece(0, -2147483648); piece(1, 6)").due("count(4) = 5");
    }

    private static void at() {
        promise(16, "Returns a byte of a block.").due("make(0, 2) = 0; set(1, 9) = 9; store(0, 1, 1) = 0; at(0, 0) = 9; at(0, 1) = -1");
        promise(16, "`p`: the block").due("""
            at(0, 0) = -2; make(0, 2) = 0; at(0, 0) = -1; at(1, 0) = -2; at(-1, 0) = -2; at(2147483647, 0) = -2;
            at(-2147483648, 0) = -2; end(0) = 0; at(0, 0) = -1; back() = 1; back() = 0; at(0, 0) = -2
            """);
        Script full = promise(16, "`p`: the block");
        for (int p = 0; p < 10; p++) {
            full.due(-2, "at", p, 0).due(p, "make", 0, 12).due(-1, "at", p, 11).due(-2, "at", p, 12);
        }
        full.due("at(10, 0) = -2");
        for (int size = 1; size <= 12; size++) {
            Script s = promise(16, "`k`: the index of the byte, from 0 on").due("make(0, 12) = 0").due(1, "make", 0, size);
            for (int k = 0; k < size; k++) {
                s.due(-1, "at", 1, k);
            }
            for (int k : new int[] {-1, size, size + 1, 12, Integer.MIN_VALUE, Integer.MAX_VALUE}) {
                s.due(-2, "at", 1, k);
            }
        }
        promise(16, "Returns the code of the byte; or BAD.").due("""
            make(0, 5) = 0; make(1, 3) = 1; move(1, 3) = 3; store(0, 1, 2) = 0; move(0, 2) = 2; set(2, 65535) = 65535;
            store(0, 2, 1) = 2; at(0, 0) = 1103; at(0, 1) = 999; at(0, 2) = 255; at(0, 3) = -1; at(0, 5) = -2; count(4) = 1
            """);
    }

    private static void image() {
        promise(17, "Returns a property of an image.").due("make(0, 5) = 0; freeze(0) = 0; image(0, 0) = 1; image(0, 1) = 5; image(0, 2) = 0");
        promise(17, "`i`: the image").due("""
            make(0, 5) = 0; image(0, 0) = -2; freeze(0) = 0; image(0, 0) = 1; image(1, 0) = -2; image(-1, 0) = -2;
            image(2147483647, 0) = -2; image(-2147483648, 0) = -2; back() = 1; image(0, 0) = -2; count(4) = 6
            """);
        Script full = promise(17, "`i`: the image");
        for (int i = 0; i < 8; i++) {
            full.due(-2, "image", i, 1).due(i, "make", 0, i + 1).due(i, "freeze", 0).due(i + 1, "image", i, 1);
        }
        full.due("image(8, 1) = -2; image(9, 1) = -2; image(10, 1) = -2");
        promise(17, "`what`: 0 the number of its nodes, 1 the number of bytes of all nodes, 2 the number of pointers in them").due("""
            make(0, 12) = 0; make(1, 3) = 1; make(2, 2) = 2; store(0, 1, 2) = 0; move(0, 2) = 2; store(0, 1, 2) = 2;
            move(0, 2) = 4; store(0, 0, 2) = 4; move(0, -4) = 0; store(1, 2, 2) = 0; freeze(0) = 0; image(0, 0) = 3;
            image(0, 1) = 17; image(0, 2) = 4; freeze(1) = 1; image(1, 0) = 2; image(1, 1) = 5; image(1, 2) = 1;
            freeze(2) = 2; image(2, 0) = 1; image(2, 1) = 2; image(2, 2) = 0; image(0, 0) = 3
            """);
        promise(17, "Returns the property; or BAD.").due("make(0, 5) = 0; freeze(0) = 0; image(0, 2) = 0")
            .all(-2, "image(0, 3); image(0, -1); image(0, 2147483647); image(0, -2147483648); image(1, 3)").due("count(4) = 5");
    }

    private static void imaged() {
        promise(18, "Returns a byte of an image.").due("make(0, 2) = 0; set(1, 9) = 9; store(0, 1, 1) = 0; freeze(0) = 0; imaged(0, 0, 0) = 9");
        promise(18, "`i`: the image").due("""
            make(0, 5) = 0; imaged(0, 0, 0) = -2; freeze(0) = 0; imaged(0, 0, 0) = -1; imaged(1, 0, 0) = -2;
            imaged(-1, 0, 0) = -2; imaged(2147483647, 0, 0) = -2; imaged(-2147483648, 0, 0) = -2; back() = 1;
            imaged(0, 0, 0) = -2; imaged(1, 0, 9) = -2; count(4) = 7
            """);
        promise(18, "`n`: the node").due("""
            make(0, 2) = 0; make(1, 3) = 1; store(0, 1, 2) = 0; freeze(0) = 0; freeze(1) = 1; imaged(0, 0, 0) = 1100;
            imaged(0, 1, 0) = -1; imaged(0, 2, 0) = -2; imaged(0, -1, 0) = -2; imaged(1, 0, 0) = -1; imaged(1, 1, 0) = -2;
            imaged(0, 2147483647, 0) = -2; imaged(0, -2147483648, 0) = -2; imaged(0, 2, 9) = -2; imaged(0, 10, 0) = -2
            """);
        for (int size = 1; size <= 12; size++) {
            Script s = promise(18, "`k`: the index of the byte, 0 or more").due("make(0, 2) = 0").due(1, "make", 1, size);
            s.due("store(0, 1, 2) = 0; freeze(0) = 0; imaged(0, 1, -1) = -2; imaged(0, 1, -2147483648) = -2").due(-1, "imaged", 0, 1, size - 1);
            for (int k : new int[] {size, size + 1, 12, 13, 100, Integer.MAX_VALUE}) {
                s.due(-5, "imaged", 0, 1, k);
            }
            s.due("imaged(0, 0, 1) = 999; imaged(0, 0, 2) = -5; imaged(0, 0, -1) = -2; count(4) = 3");
        }
        promise(18, "Returns the code of the byte; -5 if the node has not so many bytes; or BAD.").due("""
            make(0, 4) = 0; make(1, 1) = 1; set(2, 77) = 77; store(1, 2, 1) = 0; move(1, 1) = 1; store(0, 1, 2) = 0;
            freeze(0) = 0; imaged(0, 0, 0) = 1101; imaged(0, 0, 1) = 999; imaged(0, 0, 2) = -1; imaged(0, 0, 3) = -1;
            imaged(0, 0, 4) = -5; imaged(0, 1, 0) = 77; imaged(0, 1, 1) = -5; imaged(0, 2, 0) = -2; imaged(1, 0, 4) = -2;
            count(4) = 2; count(5) = 0; count(6) = 0; count(7) = 0
            """);
    }

    private static void like() {
        promise(19, "Returns the image that a block would be.").due("""
            make(0, 2) = 0; make(1, 2) = 1; freeze(0) = 0; like(0) = 0; like(1) = 0; piece(1, 2) = 0; count(1) = 1; count(9) = 3
            """);
        promise(19, "`p`: the block").due("""
            like(0) = -2; make(0, 2) = 0; like(0) = -1; like(1) = -2; like(-1) = -2; like(2147483647) = -2;
            like(-2147483648) = -2; like(10) = -2; count(4) = 6
            """);
        promise(19, "Returns the number of the image, NONE if it has not been frozen yet").due("""
            make(0, 1) = 0; make(1, 2) = 1; make(2, 2) = 2; like(0) = -1; freeze(1) = 0; like(0) = -1; like(1) = 0;
            like(2) = 0; freeze(0) = 1; like(0) = 1; back() = 4; like(0) = -1; back() = 3; like(1) = -1; count(5) = 0;
            count(4) = 0; count(1) = 0; count(9) = 3
            """);
        // with eight images there is still an answer for one that would be the ninth
        Script full = promise(19, "NONE if it has not been frozen yet");
        for (int i = 0; i < 8; i++) {
            full.due(i, "make", 0, i + 1).due(-1, "like", i).due(i, "freeze", 0).due(i, "like", i);
        }
        full.due("make(0, 9) = 8; like(8) = -1; make(0, 8) = 9; like(9) = 7; freeze(0) = 7; like(8) = -1; count(6) = 0");
        promise(19, "or BAD, NO if a block that is reached from it is ended.").due("""
            make(0, 2) = 0; make(1, 2) = 1; make(2, 2) = 2; store(0, 1, 2) = 0; store(1, 2, 2) = 0; freeze(0) = 0; like(0) = 0;
            back() = 4; end(2) = 2; like(0) = -3; like(1) = -3; like(2) = -3; like(3) = -2; count(5) = 3; count(4) = 1;
            back() = 4; like(0) = -1; end(0) = 0; like(0) = -3; like(1) = -1
            """);
    }
}
