import java.util.ArrayList;
import java.util.HashMap;
import java.util.LinkedHashMap;
import java.util.List;
import java.util.Map;
import java.util.regex.Matcher;
import java.util.regex.Pattern;

/**
 * The document once more, written as differently as can be: values are objects, refusals are
 * exceptions, states are deep copies, and programs are read with a regular expression.
 */
final class Model {
    private static final String N = "[0-9]{1,5}";
    private static final Pattern PROGRAM = Pattern.compile(" *(?:(?:[ez] *" + N
        + "|[mscj] *" + N + " +" + N
        + "|v *" + N + "(?: +" + N + "| *-" + N + ")"
        + "|[wldb] *" + N + " +" + N + " +" + N + ") *; *)+");
    private static final Pattern NUMBER = Pattern.compile("-?" + N);

    record Pointer(int block, int offset) { }

    record Half(Pointer pointer, boolean first) { }

    static final class Refused extends RuntimeException {
        private static final long serialVersionUID = 1;
        final int code;

        Refused(int code) {
            super(null, null, false, false);
            this.code = code;
        }
    }

    static final class Block {
        boolean live = true;
        boolean constant;
        final List<Object> bytes = new ArrayList<>();

        Block twin() {
            Block b = new Block();
            b.live = live;
            b.constant = constant;
            b.bytes.addAll(bytes);
            return b;
        }
    }

    static final class Memory {
        final Object[] registers = new Object[6];
        final List<Block> blocks = new ArrayList<>();
        final List<List<List<Integer>>> images = new ArrayList<>();
        int budget = 40;

        Memory twin() {
            Memory m = new Memory();
            System.arraycopy(registers, 0, m.registers, 0, 6);
            for (Block b : blocks) {
                m.blocks.add(b.twin());
            }
            m.images.addAll(images);
            m.budget = budget;
            return m;
        }
    }

    private Memory memory = new Memory();
    private final List<Memory> saved = new ArrayList<>();
    private String text = "";
    private final Map<Integer, Integer> errors = new HashMap<>();

    /** What the object under test has to answer. */
    long answer(String method, int... a) {
        if (method.equals("digest")) {
            return digest();
        }
        if (method.equals("does")) {
            return does();
        }
        Memory before = memory.twin();
        try {
            int result = operation(method, a);
            if (result == Integer.MIN_VALUE) {
                return query(method, a);
            }
            if (!method.equals("compare")) {
                save(before);
            }
            return result;
        } catch (Refused r) {
            memory = before;
            errors.merge(r.code, 1, Integer::sum);
            return r.code;
        }
    }

    /** What digest() answers now, and after each back() then. */
    List<Long> digests() {
        Memory now = memory;
        List<Memory> all = new ArrayList<>(saved);
        List<Long> digests = new ArrayList<>(List.of(digest()));
        while (!saved.isEmpty()) {
            memory = saved.remove(saved.size() - 1);
            digests.add(digest());
        }
        memory = now;
        saved.addAll(all);
        return digests;
    }

    private void save(Memory before) {
        saved.add(before);
        if (saved.size() > 5) {
            saved.remove(0);
        }
    }

    private static void need(boolean condition, int code) {
        if (!condition) {
            throw new Refused(code);
        }
    }

    private static void reason(boolean condition, int reason) {
        need(condition, -10 - reason);
    }

    private static void range(int v, int from, int to) {
        need(from <= v && v <= to, -2);
    }

    /** An operation that may stand in a program, or MIN_VALUE if the method is none. */
    private int operation(String method, int... a) {
        switch (method) {
            case "make": return make(a[0], a[1]);
            case "end": return end(a[0]);
            case "set":
                range(a[0], 0, 5);
                range(a[1], 0, 65535);
                memory.registers[a[0]] = a[1];
                return a[1];
            case "copy":
                range(a[0], 0, 5);
                range(a[1], 0, 5);
                memory.registers[a[0]] = memory.registers[a[1]];
                return kind(memory.registers[a[1]]);
            case "move": return move(a[0], a[1]);
            case "store": return store(a[0], a[1], a[2]);
            case "load": return load(a[0], a[1], a[2]);
            case "compare": return compare(a[0], a[1]);
            case "blit": return blit(a[0], a[1], a[2]);
            case "freeze": return freeze(a[0]);
            case "forget":
                range(a[0], 0, 5);
                int was = kind(memory.registers[a[0]]);
                memory.registers[a[0]] = null;
                return was;
            case "budget":
                range(a[0], 1, 60);
                int old = memory.budget;
                memory.budget = a[0];
                return old;
            default: return Integer.MIN_VALUE;
        }
    }

    private static int kind(Object value) {
        return value == null ? 0 : value instanceof Integer ? 1 : 2;
    }

    private Pointer valid(int r) {
        Object value = memory.registers[r];
        reason(value != null, 1);
        reason(value instanceof Pointer, 2);
        Pointer p = (Pointer) value;
        reason(block(p).live, 3);
        return p;
    }

    private Block block(Pointer p) {
        return memory.blocks.get(p.block());
    }

    private Pointer validFor(int r, int w) {
        Pointer p = valid(r);
        reason(p.offset() + w <= block(p).bytes.size(), 5);
        return p;
    }

    private Pointer writable(int r, int w) {
        reason(!block(valid(r)).constant, 4);
        return validFor(r, w);
    }

    private int make(int r, int n) {
        range(r, 0, 5);
        range(n, 1, 12);
        need(memory.blocks.size() < 10, -4);
        Block b = new Block();
        while (b.bytes.size() < n) {
            b.bytes.add(null);
        }
        memory.blocks.add(b);
        memory.registers[r] = new Pointer(memory.blocks.size() - 1, 0);
        return memory.blocks.size() - 1;
    }

    private int end(int r) {
        range(r, 0, 5);
        Pointer p = valid(r);
        reason(p.offset() == 0, 9);
        reason(!block(p).constant, 4);
        block(p).live = false;
        return p.block();
    }

    private int move(int r, int n) {
        range(r, 0, 5);
        range(n, -12, 12);
        Object value = memory.registers[r];
        reason(value != null, 1);
        if (value instanceof Integer number) {
            int moved = (number + n + 65536) % 65536;
            memory.registers[r] = moved;
            return moved;
        }
        Pointer p = valid(r);
        Pointer moved = new Pointer(p.block(), p.offset() + n);
        reason(moved.offset() >= 0 && moved.offset() <= block(p).bytes.size(), 5);
        memory.registers[r] = moved;
        return moved.offset();
    }

    private int store(int r, int q, int w) {
        range(r, 0, 5);
        range(q, 0, 5);
        range(w, 1, 2);
        Pointer p = writable(r, w);
        Object value = memory.registers[q];
        reason(value != null, 1);
        reason(w == 2 || value instanceof Integer, 7);
        List<Object> written = new ArrayList<>();
        if (value instanceof Pointer pointer) {
            written.add(new Half(pointer, true));
            written.add(new Half(pointer, false));
        } else {
            int number = (Integer) value;
            written.add(number % 256);
            if (w == 2) {
                written.add(number / 256);
            }
        }
        write(p, written);
        return p.offset();
    }

    /** Uninitializes every pointer that is touched as a whole, then puts the bytes. */
    private void write(Pointer p, List<Object> written) {
        List<Object> bytes = block(p).bytes;
        for (int i = p.offset(); i < p.offset() + written.size(); i++) {
            if (bytes.get(i) instanceof Half half) {
                bytes.set(i, null);
                bytes.set(half.first() ? i + 1 : i - 1, null);
            }
        }
        for (int i = 0; i < written.size(); i++) {
            bytes.set(p.offset() + i, written.get(i));
        }
    }

    private int load(int r, int q, int w) {
        range(r, 0, 5);
        range(q, 0, 5);
        range(w, 1, 2);
        Pointer p = validFor(q, w);
        List<Object> read = block(p).bytes.subList(p.offset(), p.offset() + w);
        if (w == 2 && read.get(0) instanceof Half half && half.first()) {
            memory.registers[r] = half.pointer();
            return 2;
        }
        for (Object b : read) {
            reason(!(b instanceof Half), 6);
        }
        int number = 0;
        for (int i = w - 1; i >= 0; i--) {
            reason(read.get(i) != null, 1);
            number = number * 256 + (Integer) read.get(i);
        }
        memory.registers[r] = number;
        return 1;
    }

    private int compare(int r, int q) {
        range(r, 0, 5);
        range(q, 0, 5);
        Object a = memory.registers[r];
        Object b = memory.registers[q];
        reason(a != null && b != null, 1);
        reason(a.getClass() == b.getClass(), 7);
        if (a instanceof Integer number) {
            return 1 + Integer.signum(number.compareTo((Integer) b));
        }
        Pointer p = (Pointer) a;
        Pointer o = (Pointer) b;
        reason(p.block() == o.block(), 8);
        return 1 + Integer.signum(Integer.compare(p.offset(), o.offset()));
    }

    private int blit(int r, int q, int n) {
        range(r, 0, 5);
        range(q, 0, 5);
        range(n, 1, 12);
        Pointer to = writable(r, n);
        Pointer from = validFor(q, n);
        List<Object> read = new ArrayList<>(block(from).bytes.subList(from.offset(), from.offset() + n));
        for (int i = 0; i < n; i++) {
            if (read.get(i) instanceof Half half) {
                int other = half.first() ? i + 1 : i - 1;
                reason(other >= 0 && other < n, 6);
            }
        }
        write(to, read);
        return n;
    }

    private List<Integer> reached(int block) {
        List<Integer> nodes = new ArrayList<>(List.of(block));
        for (int n = 0; n < nodes.size(); n++) {
            for (Object b : memory.blocks.get(nodes.get(n)).bytes) {
                if (b instanceof Half half && half.first() && !nodes.contains(half.pointer().block())) {
                    nodes.add(half.pointer().block());
                }
            }
        }
        return nodes;
    }

    private static int code(Object b, List<Integer> nodes) {
        if (b instanceof Half half) {
            int target = half.pointer().block();
            int number = nodes == null ? target : nodes.indexOf(target);
            return half.first() ? 1000 + 100 * number + half.pointer().offset() : 999;
        }
        return b == null ? -1 : (Integer) b;
    }

    private List<Integer> codes(int block, List<Integer> nodes) {
        List<Integer> codes = new ArrayList<>();
        for (Object b : memory.blocks.get(block).bytes) {
            codes.add(code(b, nodes));
        }
        return codes;
    }

    private List<List<Integer>> imageOf(int block) {
        List<Integer> nodes = reached(block);
        List<List<Integer>> image = new ArrayList<>();
        for (int node : nodes) {
            image.add(codes(node, nodes));
        }
        return image;
    }

    private boolean allLive(int block) {
        return reached(block).stream().allMatch(b -> memory.blocks.get(b).live);
    }

    private int freeze(int r) {
        range(r, 0, 5);
        Pointer p = valid(r);
        reason(p.offset() == 0, 9);
        reason(allLive(p.block()), 3);
        List<List<Integer>> image = imageOf(p.block());
        if (!memory.images.contains(image)) {
            need(memory.images.size() < 8, -4);
            memory.images.add(image);
        }
        reached(p.block()).forEach(b -> memory.blocks.get(b).constant = true);
        return memory.images.indexOf(image);
    }

    private int query(String method, int... a) {
        switch (method) {
            case "register":
                range(a[0], 0, 5);
                range(a[1], 0, 2);
                return registerProperty(a[0], a[1]);
            case "piece":
                range(a[0], 0, memory.blocks.size() - 1);
                range(a[1], 0, 5);
                return blockProperty(a[0], a[1]);
            case "at":
                range(a[0], 0, memory.blocks.size() - 1);
                range(a[1], 0, memory.blocks.get(a[0]).bytes.size() - 1);
                return codes(a[0], null).get(a[1]);
            case "image":
                range(a[0], 0, memory.images.size() - 1);
                range(a[1], 0, 2);
                return imageProperty(a[0], a[1]);
            case "imaged":
                range(a[0], 0, memory.images.size() - 1);
                range(a[1], 0, memory.images.get(a[0]).size() - 1);
                range(a[2], 0, Integer.MAX_VALUE);
                List<Integer> node = memory.images.get(a[0]).get(a[1]);
                return a[2] < node.size() ? node.get(a[2]) : -5;
            case "like":
                range(a[0], 0, memory.blocks.size() - 1);
                need(allLive(a[0]), -3);
                return memory.images.indexOf(imageOf(a[0]));
            case "count":
                range(a[0], 0, 9);
                return count(a[0]);
            case "undefined":
                range(a[0], 1, 9);
                return errors.getOrDefault(-10 - a[0], 0);
            case "type":
                range(a[0], 0, 127);
                need(text.length() < 120, -4);
                text += (char) a[0];
                return text.length();
            case "clear":
                int held = text.length();
                text = "";
                return held;
            case "back":
                need(!saved.isEmpty(), -3);
                memory = saved.remove(saved.size() - 1);
                return saved.size();
            default: throw new IllegalStateException(method);
        }
    }

    private int registerProperty(int r, int what) {
        Object value = memory.registers[r];
        if (what == 0) {
            return kind(value);
        }
        if (value instanceof Pointer p) {
            return what == 1 ? p.block() : p.offset();
        }
        return what == 1 && value != null ? (Integer) value : -1;
    }

    private int blockProperty(int p, int what) {
        Block b = memory.blocks.get(p);
        switch (what) {
            case 0: return b.bytes.size();
            case 1: return b.live ? 1 : 0;
            case 2: return b.constant ? 1 : 0;
            case 3: return (int) b.bytes.stream().filter(x -> x == null).count();
            case 4: return (int) codes(p, null).stream().filter(c -> c > 999).count();
            default: return reached(p).size();
        }
    }

    private int imageProperty(int i, int what) {
        List<List<Integer>> image = memory.images.get(i);
        switch (what) {
            case 0: return image.size();
            case 1: return image.stream().mapToInt(List::size).sum();
            default: return (int) image.stream().flatMap(List::stream).filter(c -> c > 999).count();
        }
    }

    private int count(int what) {
        switch (what) {
            case 0: return memory.blocks.size();
            case 1: return memory.images.size();
            case 2: return (int) memory.blocks.stream().filter(b -> b.live).count();
            case 3: return memory.budget;
            case 4: return errors.getOrDefault(-2, 0);
            case 5: return errors.getOrDefault(-3, 0);
            case 6: return errors.getOrDefault(-4, 0);
            case 7: return errors.entrySet().stream().filter(e -> e.getKey() <= -11).mapToInt(Map.Entry::getValue).sum();
            case 8: return text.length();
            default: return saved.size();
        }
    }

    private int does() {
        for (int i = 0; i < text.length(); i++) {
            Matcher prefix = PROGRAM.matcher(text.substring(0, i + 1));
            if (!prefix.matches() && !prefix.hitEnd()) {
                return -10 - i;
            }
        }
        if (!PROGRAM.matcher(text).matches()) {
            return -10 - text.length();
        }
        String[] instructions = text.replaceAll(" *$", "").split(";");
        Memory before = memory.twin();
        int steps = 0;
        int n = 0;
        while (n < instructions.length) {
            if (steps == memory.budget) {
                memory = before;
                return -500;
            }
            steps++;
            try {
                n = next(instructions[n].strip(), n);
            } catch (Refused r) {
                memory = before;
                int kind = r.code == -2 ? -2000 : r.code == -4 ? -3000 : -4000 - 1000 * (-10 - r.code);
                return kind - n;
            }
        }
        save(before);
        return steps;
    }

    private static final Map<Character, String> NAMES = new LinkedHashMap<>();

    static {
        NAMES.put('m', "make");
        NAMES.put('e', "end");
        NAMES.put('s', "set");
        NAMES.put('c', "copy");
        NAMES.put('v', "move");
        NAMES.put('w', "store");
        NAMES.put('l', "load");
        NAMES.put('b', "blit");
        NAMES.put('z', "freeze");
    }

    private int next(String instruction, int n) {
        Matcher m = NUMBER.matcher(instruction);
        int[] a = m.results().mapToInt(x -> Integer.parseInt(x.group())).toArray();
        char letter = instruction.charAt(0);
        if (letter == 'd') {
            range(a[2], 0, 5);
            memory.registers[a[2]] = compare(a[0], a[1]);
        } else if (letter == 'j') {
            range(a[0], 0, 5);
            Object value = memory.registers[a[0]];
            reason(value != null, 1);
            reason(value instanceof Integer, 7);
            return (Integer) value == 0 ? n + 1 : a[1];
        } else {
            operation(NAMES.get(letter), a);
        }
        return n + 1;
    }

    private long digest() {
        List<Integer> values = new ArrayList<>();
        for (int what = 0; what < 10; what++) {
            values.add(count(what));
        }
        for (int k = 1; k < 10; k++) {
            values.add(errors.getOrDefault(-10 - k, 0));
        }
        for (int r = 0; r < 6; r++) {
            for (int what = 0; what < 3; what++) {
                values.add(registerProperty(r, what));
            }
        }
        for (int p = 0; p < memory.blocks.size(); p++) {
            for (int what = 0; what < 5; what++) {
                values.add(blockProperty(p, what));
            }
            values.addAll(codes(p, null));
        }
        for (int i = 0; i < memory.images.size(); i++) {
            for (int what = 0; what < 3; what++) {
                values.add(imageProperty(i, what));
            }
            memory.images.get(i).forEach(values::addAll);
        }
        long h = 2010;
        for (int v : values) {
            h = 31 * h + v;
        }
        return h;
    }
}
