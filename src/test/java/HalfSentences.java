/** What the description says of the two halves of a pointer, at all places of a block of six bytes. */
final class HalfSentences {
    private static final int SIZE = 6;
    // where pointers begin in the block
    private static final int[][] LAYOUTS = {{}, {0}, {1}, {4}, {0, 2}, {1, 3}, {0, 3}, {0, 4}, {0, 2, 4}};
    private static final int NUMBER_OF_1 = 0, NUMBER_OF_2 = 1, POINTER = 2, BYTES = 3;

    private HalfSentences() { }

    static void run() {
        for (int[] layout : LAYOUTS) {
            for (int offset = 0; offset < SIZE; offset++) {
                write(layout, offset, NUMBER_OF_1, 1);
                if (offset + 2 <= SIZE) {
                    write(layout, offset, NUMBER_OF_2, 2);
                    write(layout, offset, POINTER, 2);
                }
                for (int n = 1; offset + n <= SIZE; n++) {
                    write(layout, offset, BYTES, n);
                }
            }
        }
        inPrograms();
    }

    /** Block 0 gets pointers to the end of block 1 as the layout says, numbers elsewhere, then one write. */
    private static void write(int[] layout, int offset, int how, int n) {
        Document.also("Description", "A first half is always directly followed by the second half of the same pointer.");
        Script s = Document.description("If bytes are written, and one half of a pointer is overwritten, but the other half "
            + "is not, that other half becomes uninitialized.");
        s.due("make(0, 6) = 0; make(1, 3) = 1; move(1, 3) = 3; make(2, 6) = 2; set(3, 1799) = 1799; copy(4, 0) = 2");
        int[] due = fill(s, layout);
        s.due(offset, "move", 0, offset);
        for (int k = offset; k < offset + n; k++) {
            int other = due[k] == 999 ? k - 1 : due[k] > 999 ? k + 1 : -1;
            due[k] = -1;
            if (other >= 0) {
                due[other] = -1;
            }
        }
        switch (how) {
            case BYTES: s.due(n, "blit", 0, 2, n); break;
            case POINTER:
                s.due(offset, "store", 0, 0, 2);
                due[offset] = 1000 + offset;
                due[offset + 1] = 999;
                break;
            default:
                s.due(offset, "store", 0, 3, n);
                due[offset] = 7;
                if (n == 2) {
                    due[offset + 1] = 7;
                }
                break;
        }
        for (int k = 0; k < SIZE; k++) {
            s.due(due[k], "at", 0, k);
        }
        followed(s);
    }

    private static int[] fill(Script s, int[] layout) {
        int[] codes = new int[SIZE];
        for (int k = 0; k < SIZE; k += 2) {
            s.due(k, "store", 4, 3, 2).due(k + 2, "move", 4, 2);
            codes[k] = 7;
            codes[k + 1] = 7;
        }
        s.due("move(4, -6) = 0");
        int at = 0;
        for (int begin : layout) {
            s.due(begin, "move", 4, begin - at).due(begin, "store", 4, 1, 2);
            at = begin;
            codes[begin] = 1103;
            codes[begin + 1] = 999;
        }
        return codes;
    }

    private static void followed(Script s) {
        long[] codes = new long[SIZE + 2];
        for (int k = 0; k < SIZE; k++) {
            codes[k + 1] = s.ask("at", 0, k);
        }
        for (int k = 1; k <= SIZE; k++) {
            s.check("a first half is at " + (k - 1) + ", a second half behind it", codes[k] > 999 ? codes[k + 1] : 999, 999);
            s.check("a second half is at " + (k - 1) + ", a first half before it",
                codes[k] == 999 && codes[k - 1] <= 999 ? 1 : 0, 0);
        }
    }

    private static void inPrograms() {
        Script s = Document.description("If bytes are written, and one half of a pointer is overwritten");
        s.does("m0 4;v0 1;w0 0 2;v0 1;s1 7;w0 1 1;", 6).due("at(0, 0) = -1; at(0, 1) = -1; at(0, 2) = 7; at(0, 3) = -1");
        s.does("v0 -1;w0 0 2;w0 1 1;", 3).due("at(0, 1) = 7; at(0, 2) = -1; piece(0, 4) = 0");
        s.does("m2 3;w0 0 2;v0 -1;b0 2 2;", 4).due("at(0, 0) = -1; at(0, 1) = -1; at(0, 2) = -1; at(0, 3) = -1");
    }
}
