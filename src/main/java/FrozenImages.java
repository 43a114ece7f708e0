/**
 * A memory model as in a compile-time evaluator: blocks of bytes, registers that know what they
 * point into, constant images of frozen blocks, small programs and saved states.
 */
public final class FrozenImages {
    public static final int NONE = -1, BAD = -2, NO = -3, FULL = -4;

    private static final int REGISTERS = 6, BLOCKS = 10, BYTES = 12, IMAGES = 8, SAVED = 5;
    private static final int TEXT = 120, SHORTEST_INSTRUCTION = 3, OPERANDS = 3, DIGITS = 5;
    private static final int INSTRUCTIONS = TEXT / SHORTEST_INSTRUCTION;
    private static final int NUMBERS = 65536, FARTHEST_MOVE = 12;
    private static final int FIRST_BUDGET = 40, GREATEST_BUDGET = 60;

    // what a register holds
    private static final int NOTHING = 0, NUMBER = 1, POINTER = 2;

    // codes of bytes
    private static final int SECOND_HALF = 999, FIRST_HALF = 1000, BLOCK_STEP = 100;

    // codes of the nine reasons
    private static final int REASONS = 9, BEFORE_REASONS = -10;
    private static final int NO_VALUE = -11, NO_POINTER = -12, ENDED = -13, CONSTANT = -14;
    private static final int OUTSIDE = -15, HALF = -16, NO_NUMBER = -17, OTHER_BLOCK = -18;
    private static final int NOT_THE_BEGIN = -19;
    private static final int FINE = 0;

    private static final int NOT_SO_MANY = -5, TOO_MANY_STEPS = -500;
    private static final long DIGEST_BEGIN = 2010, DIGEST_FACTOR = 31;

    private final State state;
    private final Album album;
    private final Operations operations;
    private final Program program;
    private final Past past;
    private final Tally tally;

    public FrozenImages() {
        state = new State();
        album = new Album();
        operations = new Operations(state, album);
        program = new Program();
        past = new Past();
        tally = new Tally();
    }

    public int make(int r, int n) {
        past.stage(state);
        return settled(operations.makeBlock(r, n));
    }

    public int end(int r) {
        past.stage(state);
        return settled(operations.endBlock(r));
    }

    public int set(int r, int v) {
        past.stage(state);
        return settled(operations.setNumber(r, v));
    }

    public int copy(int r, int q) {
        past.stage(state);
        return settled(operations.copyRegister(r, q));
    }

    public int move(int r, int n) {
        past.stage(state);
        return settled(operations.moveRegister(r, n));
    }

    public int store(int r, int q, int w) {
        past.stage(state);
        return settled(operations.storeBytes(r, q, w));
    }

    public int load(int r, int q, int w) {
        past.stage(state);
        return settled(operations.loadBytes(r, q, w));
    }

    public int compare(int r, int q) {
        return tally.noted(operations.compareRegisters(r, q));
    }

    public int blit(int r, int q, int n) {
        past.stage(state);
        return settled(operations.blitBytes(r, q, n));
    }

    public int freeze(int r) {
        past.stage(state);
        return settled(operations.freezeBlocks(r));
    }

    public int forget(int r) {
        past.stage(state);
        return settled(operations.forgetRegister(r));
    }

    public int budget(int v) {
        past.stage(state);
        return settled(operations.changeBudget(v));
    }

    public int register(int r, int what) {
        return tally.noted(state.registerProperty(r, what));
    }

    public int piece(int p, int what) {
        if (state.isBlock(p) && what == 5) {
            return album.reach(state, p);
        }
        return tally.noted(state.blockProperty(p, what));
    }

    public int at(int p, int k) {
        boolean there = state.isBlock(p) && k >= 0 && k < state.sizeOf(p);
        return tally.noted(there ? state.cellAt(p, k) : BAD);
    }

    public int image(int i, int what) {
        return tally.noted(state.isImage(i) ? album.imageAt(i).property(what) : BAD);
    }

    public int imaged(int i, int n, int k) {
        if (!state.isImage(i) || k < 0) {
            return tally.noted(BAD);
        }
        Image image = album.imageAt(i);
        if (!image.isNode(n)) {
            return tally.noted(BAD);
        }
        return k < image.sizeOf(n) ? image.cellAt(n, k) : NOT_SO_MANY;
    }

    public int like(int p) {
        if (!state.isBlock(p)) {
            return tally.noted(BAD);
        }
        album.reach(state, p);
        if (!album.allReachedLive(state)) {
            return tally.noted(NO);
        }
        album.draw(state);
        int i = album.indexOfDrawn(state);
        return i < state.images ? i : NONE;
    }

    public int count(int what) {
        return tally.noted(counted(what));
    }

    public int undefined(int k) {
        return tally.noted(tally.ofReason(k));
    }

    public int type(int c) {
        return tally.noted(program.append(c));
    }

    public int clear() {
        return program.empty();
    }

    public int does() {
        int position = program.parse();
        if (position >= 0) {
            return BEFORE_REASONS - position;
        }
        past.stage(state);
        int result = program.run(operations, state.budget);
        if (result >= 0) {
            past.keep();
        } else {
            past.undo(state);
        }
        return result;
    }

    public int back() {
        return tally.noted(past.bringBack(state));
    }

    public long digest() {
        long h = DIGEST_BEGIN;
        for (int what = 0; what <= 9; what++) {
            h = mixed(h, counted(what));
        }
        for (int k = 1; k <= REASONS; k++) {
            h = mixed(h, tally.ofReason(k));
        }
        for (int r = 0; r < REGISTERS; r++) {
            for (int what = 0; what <= 2; what++) {
                h = mixed(h, state.registerProperty(r, what));
            }
        }
        for (int p = 0; p < state.blocks; p++) {
            h = digestOfBlock(h, p);
        }
        for (int i = 0; i < state.images; i++) {
            h = digestOfImage(h, i);
        }
        return h;
    }

    private long digestOfBlock(long begin, int p) {
        long h = begin;
        for (int what = 0; what <= 4; what++) {
            h = mixed(h, state.blockProperty(p, what));
        }
        for (int k = 0; k < state.sizeOf(p); k++) {
            h = mixed(h, state.cellAt(p, k));
        }
        return h;
    }

    private long digestOfImage(long begin, int i) {
        long h = begin;
        Image image = album.imageAt(i);
        for (int what = 0; what <= 2; what++) {
            h = mixed(h, image.property(what));
        }
        for (int n = 0; n < image.nodes; n++) {
            for (int k = 0; k < image.sizeOf(n); k++) {
                h = mixed(h, image.cellAt(n, k));
            }
        }
        return h;
    }

    private static long mixed(long h, int v) {
        return DIGEST_FACTOR * h + v;
    }

    private int counted(int what) {
        switch (what) {
            case 0: return state.blocks;
            case 1: return state.images;
            case 2: return state.liveBlocks();
            case 3: return state.budget;
            case 4: return tally.bad;
            case 5: return tally.no;
            case 6: return tally.full;
            case 7: return tally.ofAllReasons();
            case 8: return program.length;
            case 9: return past.saved;
            default: return BAD;
        }
    }

    /** Ends a call that has staged the state before it: saves that state, or counts the error. */
    private int settled(int result) {
        if (result >= 0) {
            past.keep();
        }
        return tally.noted(result);
    }

    private static boolean isRegister(int r) {
        return r >= 0 && r < REGISTERS;
    }

    private static boolean isPointerCode(int code) {
        return code >= FIRST_HALF;
    }

    private static int pointerCode(int block, int offset) {
        return FIRST_HALF + BLOCK_STEP * block + offset;
    }

    private static int blockOfCode(int code) {
        return (code - FIRST_HALF) / BLOCK_STEP;
    }

    private static int offsetOfCode(int code) {
        return (code - FIRST_HALF) % BLOCK_STEP;
    }

    /**
     * All that back() brings back. Of the images only their number is here: images are only
     * appended, so those that a saved state knows stand unchanged in the album.
     */
    private static final class State {
        private final int[] kinds;
        private final int[] values;
        private final int[] offsets;
        private final int[] sizes;
        private final int[] live;
        private final int[] constant;
        private final int[] cells;
        int blocks;
        int images;
        int budget;

        State() {
            kinds = new int[REGISTERS];
            values = new int[REGISTERS];
            offsets = new int[REGISTERS];
            sizes = new int[BLOCKS];
            live = new int[BLOCKS];
            constant = new int[BLOCKS];
            cells = new int[BLOCKS * BYTES];
            budget = FIRST_BUDGET;
        }

        void become(State other) {
            System.arraycopy(other.kinds, 0, kinds, 0, REGISTERS);
            System.arraycopy(other.values, 0, values, 0, REGISTERS);
            System.arraycopy(other.offsets, 0, offsets, 0, REGISTERS);
            System.arraycopy(other.sizes, 0, sizes, 0, BLOCKS);
            System.arraycopy(other.live, 0, live, 0, BLOCKS);
            System.arraycopy(other.constant, 0, constant, 0, BLOCKS);
            System.arraycopy(other.cells, 0, cells, 0, BLOCKS * BYTES);
            blocks = other.blocks;
            images = other.images;
            budget = other.budget;
        }

        boolean isBlock(int p) {
            return p >= 0 && p < blocks && p < BLOCKS;
        }

        boolean isImage(int i) {
            return i >= 0 && i < images;
        }

        int kindOf(int r) {
            return r >= 0 && r < REGISTERS ? kinds[r] : NOTHING;
        }

        /** The number of a register, or the block of its pointer. */
        int valueOf(int r) {
            return r >= 0 && r < REGISTERS ? values[r] : NONE;
        }

        int offsetOf(int r) {
            return r >= 0 && r < REGISTERS ? offsets[r] : NONE;
        }

        void fillRegister(int r, int kind, int value, int offset) {
            if (r >= 0 && r < REGISTERS) {
                kinds[r] = kind;
                values[r] = value;
                offsets[r] = offset;
            }
        }

        void fillWithNumber(int r, int number) {
            fillRegister(r, NUMBER, number, NONE);
        }

        void fillWithPointer(int r, int block, int offset) {
            fillRegister(r, POINTER, block, offset);
        }

        int registerProperty(int r, int what) {
            if (!isRegister(r)) {
                return BAD;
            }
            switch (what) {
                case 0: return kinds[r];
                case 1: return kinds[r] == NOTHING ? NONE : values[r];
                case 2: return kinds[r] == POINTER ? offsets[r] : NONE;
                default: return BAD;
            }
        }

        void addBlock(int size) {
            int p = blocks;
            if (p >= 0 && p < BLOCKS) {
                sizes[p] = size;
                live[p] = 1;
                constant[p] = 0;
                blocks = p + 1;
                for (int k = 0; k < BYTES; k++) {
                    putCell(p, k, NONE);
                }
            }
        }

        int sizeOf(int p) {
            return p >= 0 && p < BLOCKS ? sizes[p] : 0;
        }

        boolean isLive(int p) {
            return p >= 0 && p < BLOCKS && live[p] == 1;
        }

        boolean isConstant(int p) {
            return p >= 0 && p < BLOCKS && constant[p] == 1;
        }

        void markEnded(int p) {
            if (p >= 0 && p < BLOCKS) {
                live[p] = 0;
            }
        }

        void markConstant(int p) {
            if (p >= 0 && p < BLOCKS) {
                constant[p] = 1;
            }
        }

        int cellAt(int p, int k) {
            return p >= 0 && p < BLOCKS && k >= 0 && k < BYTES ? cells[p * BYTES + k] : NONE;
        }

        void putCell(int p, int k, int code) {
            if (p >= 0 && p < BLOCKS && k >= 0 && k < BYTES) {
                cells[p * BYTES + k] = code;
            }
        }

        int liveBlocks() {
            int n = 0;
            for (int p = 0; p < blocks; p++) {
                if (isLive(p)) {
                    n++;
                }
            }
            return n;
        }

        int blockProperty(int p, int what) {
            if (!isBlock(p)) {
                return BAD;
            }
            switch (what) {
                case 0: return sizes[p];
                case 1: return live[p];
                case 2: return constant[p];
                case 3: return uninitializedIn(p);
                case 4: return pointersIn(p);
                default: return BAD;
            }
        }

        private int uninitializedIn(int p) {
            int n = 0;
            for (int k = 0; k < sizeOf(p); k++) {
                if (cellAt(p, k) == NONE) {
                    n++;
                }
            }
            return n;
        }

        private int pointersIn(int p) {
            int n = 0;
            for (int k = 0; k < sizeOf(p); k++) {
                if (isPointerCode(cellAt(p, k))) {
                    n++;
                }
            }
            return n;
        }
    }

    /** The operations of the document on a state; what they return below 0 is an error. */
    private static final class Operations {
        private final State state;
        private final Album album;
        private final int[] carried;

        Operations(State state, Album album) {
            this.state = state;
            this.album = album;
            carried = new int[BYTES];
        }

        int makeBlock(int r, int n) {
            if (!isRegister(r) || n < 1 || n > BYTES) {
                return BAD;
            }
            if (state.blocks >= BLOCKS) {
                return FULL;
            }
            int block = state.blocks;
            state.addBlock(n);
            state.fillWithPointer(r, block, 0);
            return block;
        }

        int endBlock(int r) {
            if (!isRegister(r)) {
                return BAD;
            }
            int fault = faultAsBegin(r);
            if (fault != FINE) {
                return fault;
            }
            int block = state.valueOf(r);
            if (state.isConstant(block)) {
                return CONSTANT;
            }
            state.markEnded(block);
            return block;
        }

        int setNumber(int r, int v) {
            if (!isRegister(r) || v < 0 || v >= NUMBERS) {
                return BAD;
            }
            state.fillWithNumber(r, v);
            return v;
        }

        int copyRegister(int r, int q) {
            if (!isRegister(r) || !isRegister(q)) {
                return BAD;
            }
            int kind = state.kindOf(q);
            state.fillRegister(r, kind, state.valueOf(q), state.offsetOf(q));
            return kind;
        }

        int forgetRegister(int r) {
            if (!isRegister(r)) {
                return BAD;
            }
            int kind = state.kindOf(r);
            state.fillRegister(r, NOTHING, NONE, NONE);
            return kind;
        }

        int changeBudget(int v) {
            if (v < 1 || v > GREATEST_BUDGET) {
                return BAD;
            }
            int previous = state.budget;
            state.budget = v;
            return previous;
        }

        int moveRegister(int r, int n) {
            if (!isRegister(r) || n < -FARTHEST_MOVE || n > FARTHEST_MOVE) {
                return BAD;
            }
            int kind = state.kindOf(r);
            if (kind == NOTHING) {
                return NO_VALUE;
            }
            return kind == NUMBER ? moveNumber(r, n) : movePointer(r, n);
        }

        private int moveNumber(int r, int n) {
            int number = Math.floorMod(state.valueOf(r) + n, NUMBERS);
            state.fillWithNumber(r, number);
            return number;
        }

        private int movePointer(int r, int n) {
            int block = state.valueOf(r);
            if (!state.isLive(block)) {
                return ENDED;
            }
            int offset = state.offsetOf(r) + n;
            if (offset < 0 || offset > state.sizeOf(block)) {
                return OUTSIDE;
            }
            state.fillWithPointer(r, block, offset);
            return offset;
        }

        int storeBytes(int r, int q, int w) {
            if (!isRegister(r) || !isRegister(q) || w < 1 || w > 2) {
                return BAD;
            }
            int fault = faultForWriting(r, w);
            if (fault != FINE) {
                return fault;
            }
            int kind = state.kindOf(q);
            if (kind == NOTHING) {
                return NO_VALUE;
            }
            if (w == 1 && kind == POINTER) {
                return NO_NUMBER;
            }
            int block = state.valueOf(r);
            int offset = state.offsetOf(r);
            splitPointers(block, offset, w);
            putValue(block, offset, q, w);
            return offset;
        }

        private void putValue(int block, int offset, int q, int w) {
            int value = state.valueOf(q);
            if (state.kindOf(q) == POINTER) {
                state.putCell(block, offset, pointerCode(value, state.offsetOf(q)));
                state.putCell(block, offset + 1, SECOND_HALF);
                return;
            }
            state.putCell(block, offset, value & 255);
            if (w == 2) {
                state.putCell(block, offset + 1, value >> 8 & 255);
            }
        }

        int loadBytes(int r, int q, int w) {
            if (!isRegister(r) || !isRegister(q) || w < 1 || w > 2) {
                return BAD;
            }
            int fault = faultForReading(q, w);
            if (fault != FINE) {
                return fault;
            }
            int low = state.cellAt(state.valueOf(q), state.offsetOf(q));
            int high = w == 2 ? state.cellAt(state.valueOf(q), state.offsetOf(q) + 1) : 0;
            // behind a first half always stands the second half of the same pointer
            if (w == 2 && isPointerCode(low)) {
                state.fillWithPointer(r, blockOfCode(low), offsetOfCode(low));
                return POINTER;
            }
            if (low >= SECOND_HALF || high >= SECOND_HALF) {
                return HALF;
            }
            if (low == NONE || high == NONE) {
                return NO_VALUE;
            }
            state.fillWithNumber(r, high * 256 + low);
            return NUMBER;
        }

        int compareRegisters(int r, int q) {
            if (!isRegister(r) || !isRegister(q)) {
                return BAD;
            }
            int kind = state.kindOf(r);
            if (kind == NOTHING || state.kindOf(q) == NOTHING) {
                return NO_VALUE;
            }
            if (kind != state.kindOf(q)) {
                return NO_NUMBER;
            }
            if (kind == NUMBER) {
                return order(state.valueOf(r), state.valueOf(q));
            }
            if (state.valueOf(r) != state.valueOf(q)) {
                return OTHER_BLOCK;
            }
            return order(state.offsetOf(r), state.offsetOf(q));
        }

        private static int order(int a, int b) {
            if (a == b) {
                return 1;
            }
            return a < b ? 0 : 2;
        }

        /** The compare of a program, whose result goes into the register t. */
        int compareInto(int r, int q, int t) {
            if (!isRegister(t)) {
                return BAD;
            }
            int result = compareRegisters(r, q);
            if (result >= 0) {
                state.fillWithNumber(t, result);
            }
            return result;
        }

        /** 1 if the jump is to be made, 0 if not, or an error. */
        int jumps(int r) {
            if (!isRegister(r)) {
                return BAD;
            }
            int kind = state.kindOf(r);
            if (kind == NOTHING) {
                return NO_VALUE;
            }
            if (kind == POINTER) {
                return NO_NUMBER;
            }
            return state.valueOf(r) != 0 ? 1 : 0;
        }

        int blitBytes(int r, int q, int n) {
            if (!isRegister(r) || !isRegister(q) || n < 1 || n > BYTES) {
                return BAD;
            }
            int fault = faultForWriting(r, n);
            if (fault == FINE) {
                fault = faultForReading(q, n);
            }
            if (fault != FINE) {
                return fault;
            }
            if (cutsPointer(state.valueOf(q), state.offsetOf(q), n)) {
                return HALF;
            }
            carryBytes(r, q, n);
            return n;
        }

        /** Takes all bytes before it puts the first one, because the two places may overlap. */
        private void carryBytes(int r, int q, int n) {
            for (int k = 0; k < n && k < BYTES; k++) {
                carried[k] = state.cellAt(state.valueOf(q), state.offsetOf(q) + k);
            }
            int block = state.valueOf(r);
            int offset = state.offsetOf(r);
            splitPointers(block, offset, n);
            for (int k = 0; k < n && k < BYTES; k++) {
                state.putCell(block, offset + k, carried[k]);
            }
        }

        int freezeBlocks(int r) {
            if (!isRegister(r)) {
                return BAD;
            }
            int fault = faultAsBegin(r);
            if (fault != FINE) {
                return fault;
            }
            album.reach(state, state.valueOf(r));
            if (!album.allReachedLive(state)) {
                return ENDED;
            }
            album.draw(state);
            int i = album.indexOfDrawn(state);
            if (i >= IMAGES) {
                return FULL;
            }
            if (i == state.images) {
                state.images = i + 1;
            }
            album.markReachedConstant(state);
            return i;
        }

        /** Why a register is not valid, or FINE. */
        private int fault(int r) {
            int kind = state.kindOf(r);
            if (kind == NOTHING) {
                return NO_VALUE;
            }
            if (kind == NUMBER) {
                return NO_POINTER;
            }
            return state.isLive(state.valueOf(r)) ? FINE : ENDED;
        }

        private int faultAsBegin(int r) {
            int fault = fault(r);
            if (fault != FINE) {
                return fault;
            }
            return state.offsetOf(r) == 0 ? FINE : NOT_THE_BEGIN;
        }

        private int faultForReading(int r, int n) {
            int fault = fault(r);
            if (fault != FINE) {
                return fault;
            }
            return hasBytes(r, n) ? FINE : OUTSIDE;
        }

        private int faultForWriting(int r, int n) {
            int fault = fault(r);
            if (fault != FINE) {
                return fault;
            }
            if (state.isConstant(state.valueOf(r))) {
                return CONSTANT;
            }
            return hasBytes(r, n) ? FINE : OUTSIDE;
        }

        private boolean hasBytes(int r, int n) {
            return state.offsetOf(r) + n <= state.sizeOf(state.valueOf(r));
        }

        private boolean cutsPointer(int block, int from, int n) {
            return state.cellAt(block, from) == SECOND_HALF
                || isPointerCode(state.cellAt(block, from + n - 1));
        }

        /** Bytes that will be written may hold one half of a pointer whose other half stays. */
        private void splitPointers(int block, int from, int n) {
            if (state.cellAt(block, from) == SECOND_HALF) {
                state.putCell(block, from - 1, NONE);
            }
            if (isPointerCode(state.cellAt(block, from + n - 1))) {
                state.putCell(block, from + n, NONE);
            }
        }
    }

    /** A frozen block with all blocks that are reached from it. */
    private static final class Image {
        private final int[] sizes;
        private final int[] cells;
        int nodes;

        Image() {
            sizes = new int[BLOCKS];
            cells = new int[BLOCKS * BYTES];
        }

        boolean isNode(int n) {
            return n >= 0 && n < nodes && n < BLOCKS;
        }

        int sizeOf(int n) {
            return n >= 0 && n < BLOCKS ? sizes[n] : 0;
        }

        int cellAt(int n, int k) {
            return n >= 0 && n < BLOCKS && k >= 0 && k < BYTES ? cells[n * BYTES + k] : NONE;
        }

        void begin() {
            nodes = 0;
        }

        void addNode(int size) {
            if (nodes >= 0 && nodes < BLOCKS) {
                sizes[nodes] = size;
                nodes = nodes + 1;
            }
        }

        void putCell(int n, int k, int code) {
            if (n >= 0 && n < BLOCKS && k >= 0 && k < BYTES) {
                cells[n * BYTES + k] = code;
            }
        }

        int property(int what) {
            int bytes = 0;
            int pointers = 0;
            for (int n = 0; n < nodes; n++) {
                bytes += sizeOf(n);
                for (int k = 0; k < sizeOf(n); k++) {
                    if (isPointerCode(cellAt(n, k))) {
                        pointers++;
                    }
                }
            }
            switch (what) {
                case 0: return nodes;
                case 1: return bytes;
                case 2: return pointers;
                default: return BAD;
            }
        }

        boolean isSameAs(Image other) {
            if (nodes != other.nodes) {
                return false;
            }
            for (int n = 0; n < nodes && n < BLOCKS; n++) {
                if (sizes[n] != other.sizes[n]) {
                    return false;
                }
            }
            for (int i = 0; i < nodes * BYTES && i < BLOCKS * BYTES; i++) {
                if (cells[i] != other.cells[i]) {
                    return false;
                }
            }
            return true;
        }
    }

    /** The images, and what is needed to find or draw the image of a block. */
    private static final class Album {
        // one place more than there may be images: behind the last image is room to draw another
        private final Image[] images;
        private final int[] blockOfNode;
        private final int[] nodeOfBlock;
        private int reached;

        Album() {
            images = new Image[IMAGES + 1];
            for (int i = 0; i <= IMAGES; i++) {
                images[i] = new Image();
            }
            blockOfNode = new int[BLOCKS];
            nodeOfBlock = new int[BLOCKS];
        }

        Image imageAt(int i) {
            return images[i >= 0 && i <= IMAGES ? i : IMAGES];
        }

        /** Numbers the blocks that are reached from a block as nodes; returns how many they are. */
        int reach(State state, int block) {
            for (int p = 0; p < BLOCKS; p++) {
                nodeOfBlock[p] = NONE;
            }
            reached = 0;
            addReached(block);
            for (int n = 0; n < reached && n < BLOCKS; n++) {
                addTargets(state, blockOfNode[n]);
            }
            return reached;
        }

        private void addTargets(State state, int block) {
            for (int k = 0; k < state.sizeOf(block); k++) {
                int code = state.cellAt(block, k);
                if (isPointerCode(code)) {
                    addReached(blockOfCode(code));
                }
            }
        }

        private void addReached(int block) {
            boolean known = block < 0 || block >= BLOCKS || nodeOfBlock[block] != NONE;
            if (!known && reached >= 0 && reached < BLOCKS) {
                nodeOfBlock[block] = reached;
                blockOfNode[reached] = block;
                reached = reached + 1;
            }
        }

        boolean allReachedLive(State state) {
            for (int n = 0; n < reached && n < BLOCKS; n++) {
                if (!state.isLive(blockOfNode[n])) {
                    return false;
                }
            }
            return true;
        }

        void markReachedConstant(State state) {
            for (int n = 0; n < reached && n < BLOCKS; n++) {
                state.markConstant(blockOfNode[n]);
            }
        }

        /** Draws what has been reached in the place behind the last image. */
        void draw(State state) {
            Image drawn = imageAt(state.images);
            drawn.begin();
            for (int n = 0; n < reached && n < BLOCKS; n++) {
                int block = blockOfNode[n];
                drawn.addNode(state.sizeOf(block));
                // the bytes behind the size, too: they never differ, so that all can be compared
                for (int k = 0; k < BYTES; k++) {
                    drawn.putCell(n, k, codeInImage(state.cellAt(block, k)));
                }
            }
        }

        /** The number of the image that is equal to the drawn one, or of its own place. */
        int indexOfDrawn(State state) {
            Image drawn = imageAt(state.images);
            for (int i = 0; i < state.images; i++) {
                if (imageAt(i).isSameAs(drawn)) {
                    return i;
                }
            }
            return state.images;
        }

        private int codeInImage(int code) {
            if (!isPointerCode(code)) {
                return code;
            }
            int block = blockOfCode(code);
            int node = block >= 0 && block < BLOCKS ? nodeOfBlock[block] : NONE;
            return pointerCode(node, offsetOfCode(code));
        }
    }

    /** The text buffer and the instructions that its text has. */
    private static final class Program {
        private final int[] text;
        private final int[] letters;
        private final int[] operands;
        int length;
        private int size;

        // where the reading of an instruction stands; letter is NONE between two instructions
        private int letter;
        private int given;
        private int digits;
        private boolean afterMinus;
        private int sign;

        Program() {
            text = new int[TEXT];
            letters = new int[INSTRUCTIONS];
            operands = new int[INSTRUCTIONS * OPERANDS];
        }

        int append(int c) {
            if (c < 0 || c > 127) {
                return BAD;
            }
            if (length < 0 || length >= TEXT) {
                return FULL;
            }
            text[length] = c;
            length = length + 1;
            return length;
        }

        int empty() {
            int held = length;
            length = 0;
            return held;
        }

        /** The error position, or NONE if the text is a program. */
        int parse() {
            size = 0;
            letter = NONE;
            for (int i = 0; i < length && i < TEXT; i++) {
                if (!accepts(text[i])) {
                    return i;
                }
            }
            return letter == NONE && size > 0 ? NONE : length;
        }

        private boolean accepts(int c) {
            if (letter == NONE) {
                return c == ' ' || acceptsLetter(c);
            }
            if (c >= '0' && c <= '9') {
                return acceptsDigit(c - '0');
            }
            if (afterMinus) {
                return false;
            }
            switch (c) {
                case ' ':
                    digits = 0;
                    return true;
                case '-':
                    return acceptsMinus();
                case ';':
                    return acceptsSemicolon();
                default:
                    return false;
            }
        }

        private boolean acceptsLetter(int c) {
            if (operandsOf(c) == 0 || size < 0 || size >= INSTRUCTIONS) {
                return false;
            }
            letters[size] = c;
            letter = c;
            given = 0;
            digits = 0;
            afterMinus = false;
            return true;
        }

        private boolean acceptsDigit(int digit) {
            if (digits == 0) {
                if (given == operandsOf(letter)) {
                    return false;
                }
                sign = afterMinus ? -1 : 1;
                afterMinus = false;
                given = given + 1;
                putOperand(0);
            }
            if (digits == DIGITS) {
                return false;
            }
            digits = digits + 1;
            putOperand(operand(size, given - 1) * 10 + sign * digit);
            return true;
        }

        private boolean acceptsMinus() {
            if (letter != 'v' || given != 1) {
                return false;
            }
            digits = 0;
            afterMinus = true;
            return true;
        }

        private boolean acceptsSemicolon() {
            if (given != operandsOf(letter)) {
                return false;
            }
            size = size + 1;
            letter = NONE;
            return true;
        }

        private void putOperand(int number) {
            int i = size * OPERANDS + given - 1;
            if (i >= 0 && i < INSTRUCTIONS * OPERANDS) {
                operands[i] = number;
            }
        }

        private int operand(int n, int k) {
            int i = n * OPERANDS + k;
            return i >= 0 && i < INSTRUCTIONS * OPERANDS ? operands[i] : 0;
        }

        private int letterOf(int n) {
            return n >= 0 && n < INSTRUCTIONS ? letters[n] : NONE;
        }

        /** How many numbers stand behind a letter, 0 if it is not the letter of an instruction. */
        private static int operandsOf(int c) {
            switch (c) {
                case 'e':
                case 'z':
                    return 1;
                case 'm':
                case 's':
                case 'c':
                case 'v':
                case 'j':
                    return 2;
                case 'w':
                case 'l':
                case 'd':
                case 'b':
                    return 3;
                default:
                    return 0;
            }
        }

        /** Returns how many steps there were, or what does() returns if it can't be carried out. */
        int run(Operations operations, int budget) {
            int n = 0;
            for (int steps = 0; steps <= budget; steps++) {
                if (n >= size) {
                    return steps;
                }
                if (steps < budget) {
                    int result = carryOut(operations, n);
                    if (result < 0) {
                        return failure(result, n);
                    }
                    n = letterOf(n) == 'j' && result == 1 ? operand(n, 1) : n + 1;
                }
            }
            return TOO_MANY_STEPS;
        }

        private int carryOut(Operations operations, int n) {
            int a = operand(n, 0);
            int b = operand(n, 1);
            int c = operand(n, 2);
            switch (letterOf(n)) {
                case 'm': return operations.makeBlock(a, b);
                case 'e': return operations.endBlock(a);
                case 's': return operations.setNumber(a, b);
                case 'c': return operations.copyRegister(a, b);
                case 'v': return operations.moveRegister(a, b);
                case 'w': return operations.storeBytes(a, b, c);
                case 'l': return operations.loadBytes(a, b, c);
                case 'd': return operations.compareInto(a, b, c);
                case 'b': return operations.blitBytes(a, b, c);
                case 'z': return operations.freezeBlocks(a);
                case 'j': return operations.jumps(a);
                default: return BAD;
            }
        }

        private static int failure(int code, int n) {
            if (code == BAD) {
                return -2000 - n;
            }
            if (code == FULL) {
                return -3000 - n;
            }
            int reason = BEFORE_REASONS - code;
            return -4000 - 1000 * reason - n;
        }
    }

    /** The saved states, in a ring with one place more, where the state before a call waits. */
    private static final class Past {
        private static final int PLACES = SAVED + 1;
        private final State[] states;
        private int place;
        int saved;

        Past() {
            states = new State[PLACES];
            for (int i = 0; i < PLACES; i++) {
                states[i] = new State();
            }
        }

        private State waiting() {
            return states[Math.floorMod(place, PLACES)];
        }

        void stage(State state) {
            waiting().become(state);
        }

        /** The state that waits is saved. */
        void keep() {
            place = (place + 1) % PLACES;
            if (saved < SAVED) {
                saved = saved + 1;
            }
        }

        /** The state that waits is brought back at once, without having been saved. */
        void undo(State state) {
            state.become(waiting());
        }

        int bringBack(State state) {
            if (saved == 0) {
                return NO;
            }
            place = (place + PLACES - 1) % PLACES;
            saved = saved - 1;
            state.become(waiting());
            return saved;
        }
    }

    /** How often each error was returned. */
    private static final class Tally {
        private final int[] reasons;
        int bad;
        int no;
        int full;

        Tally() {
            reasons = new int[REASONS + 1];
        }

        /** Counts a result if it is an error, and returns it. */
        int noted(int result) {
            int reason = BEFORE_REASONS - result;
            if (result == BAD) {
                bad++;
            } else if (result == NO) {
                no++;
            } else if (result == FULL) {
                full++;
            } else if (reason >= 1 && reason <= REASONS) {
                reasons[reason]++;
            }
            return result;
        }

        int ofReason(int k) {
            return k >= 1 && k <= REASONS ? reasons[k] : BAD;
        }

        int ofAllReasons() {
            int n = 0;
            for (int k = 1; k <= REASONS; k++) {
                n += reasons[k];
            }
            return n;
        }
    }
}
