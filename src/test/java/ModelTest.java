import java.util.ArrayList;
import java.util.Arrays;
import java.util.List;
import java.util.Random;
import java.util.TreeMap;

/** Long runs of calls, drawn with fixed seeds, on the class and on the plain model of the document. */
final class ModelTest {
    private static final int RUNS = 2000;
    private static final int CALLS = 512;
    private static final int[] WILD = {-1, 6, 7, 10, 13, 61, 120, 128, 65536, Integer.MIN_VALUE, Integer.MAX_VALUE};
    private static final String[] OPERATIONS = {"make", "end", "set", "copy", "move", "store", "load", "compare",
        "blit", "freeze", "forget", "budget"};
    private static final String[] QUERIES = {"register", "piece", "at", "image", "imaged", "like", "count",
        "undefined", "type", "clear", "digest"};

    private final Random random;
    private final FrozenImages object = new FrozenImages();
    private final Model model = new Model();
    private final List<String> calls = new ArrayList<>();
    // how readily a run makes blocks, freezes and ends them, so that some runs meet each limit
    private final int eager;
    private boolean wrong;
    private static final TreeMap<String, Integer> met = new TreeMap<>();

    private ModelTest(long seed) {
        random = new Random(seed);
        eager = random.nextInt(10);
    }

    public static void main(String[] args) {
        int failed = 0;
        for (int run = 0; run < RUNS && failed < 3; run++) {
            ModelTest test = new ModelTest(run);
            test.run();
            if (test.wrong) {
                failed++;
                System.out.println("run " + run + ":");
                test.calls.subList(Math.max(0, test.calls.size() - 40), test.calls.size()).forEach(System.out::println);
            }
        }
        if (failed == 0 && !metAll()) {
            failed++;
        }
        System.out.println(failed == 0 ? RUNS + " runs answer as the model" : "runs do not answer as the model");
        if (failed != 0) {
            System.exit(1);
        }
    }

    /** The runs are worth something only if they meet every answer that is of its own kind. */
    private static boolean metAll() {
        boolean all = true;
        String due = "make -2,make -4,end -2,end -11,end -12,end -13,end -14,end -19,set -2,copy -2,move -2,move -11,"
            + "move -13,move -15,store -2,store -11,store -12,store -13,store -14,store -15,store -17,load -2,load -11,"
            + "load -12,load -13,load -15,load -16,compare -2,compare -11,compare -17,compare -18,blit -2,blit -11,"
            + "blit -12,blit -13,blit -14,blit -15,blit -16,freeze -2,freeze -4,freeze -11,freeze -12,freeze -13,"
            + "freeze -19,forget -2,budget -2,register -1,register -2,piece -2,at -1,at -2,image -2,imaged -1,imaged -2,"
            + "imaged -5,like -1,like -2,like -3,count -2,undefined -2,type -2,type -4,back -3,does -500,does -2000,"
            + "does -3000,does -5000,does -6000,does -7000,does -8000,does -9000,does -10000,does -11000,does -12000,"
            + "does -13000,does text,does fine";
        for (String answer : due.split(",")) {
            if (!met.containsKey(answer)) {
                System.out.println("no run has met: " + answer);
                all = false;
            }
        }
        return all;
    }

    private void run() {
        if (eager == 9) {
            hoard();
        }
        for (int i = 0; i < CALLS && !wrong; i++) {
            int choice = random.nextInt(100);
            if (choice < 62) {
                operation();
            } else if (choice < 82) {
                query();
            } else if (choice < 90) {
                call("back");
            } else if (choice < 93) {
                program();
                i += 40;
            } else {
                call("digest");
            }
        }
        call("digest");
    }

    /** Freezes blocks of many sizes: by chance alone, eight images are hardly ever met. */
    private void hoard() {
        int first = random.nextInt(4);
        for (int i = 1; i <= 9; i++) {
            call("make", 0, first + i);
            call("copy", 1 + i % 3, 0);
            call("freeze", random.nextInt(30) == 0 ? 1 : 0);
        }
    }

    private void call(String method, int... a) {
        if (wrong) {
            return;
        }
        long due = model.answer(method, a);
        long got;
        try {
            got = Script.answer(object, method, a);
        } catch (RuntimeException thrown) {
            calls.add(method + Arrays.toString(a) + " threw " + thrown);
            wrong = true;
            return;
        }
        calls.add(method + Arrays.toString(a) + " = " + got + (got == due ? "" : ", due is " + due));
        wrong = got != due;
        meet(method, due);
    }

    private static void meet(String method, long due) {
        if (method.equals("does")) {
            String kind = due >= 0 ? "fine" : due <= -2000 ? String.valueOf(due / 1000 * 1000)
                : due == -500 ? "-500" : "text";
            met.merge("does " + kind, 1, Integer::sum);
        } else if (due < 0 && !method.equals("digest")) {
            met.merge(method + " " + due, 1, Integer::sum);
        }
    }

    private int number(int from, int to) {
        if (random.nextInt(40) == 0) {
            return WILD[random.nextInt(WILD.length)];
        }
        return from + random.nextInt(to - from + 1);
    }

    /** Mostly one of few registers, so that what is put there is used again. */
    private int register() {
        return random.nextInt(3) == 0 ? number(0, 5) : number(0, 3);
    }

    private int value() {
        switch (random.nextInt(4)) {
            case 0: return number(0, 2);
            case 1: return number(65530, 65535);
            case 2: return number(250, 260);
            default: return number(0, 65535);
        }
    }

    private int size() {
        return random.nextInt(3) == 0 ? number(1, 12) : number(2, 4);
    }

    private void operation() {
        String method = OPERATIONS[random.nextInt(OPERATIONS.length)];
        boolean rare = method.equals("freeze") || method.equals("end") || method.equals("budget") || method.equals("forget");
        if (rare && random.nextInt(10) > eager) {
            method = random.nextBoolean() ? "store" : "move";
        }
        switch (method) {
            case "make": call(method, register(), size()); break;
            case "set": call(method, register(), value()); break;
            case "move": call(method, register(), random.nextBoolean() ? number(-2, 2) : number(-12, 12)); break;
            case "store":
            case "load": call(method, register(), register(), number(1, 2)); break;
            case "copy":
            case "compare": call(method, register(), register()); break;
            case "blit": call(method, register(), register(), size()); break;
            case "budget": call(method, random.nextBoolean() ? number(1, 60) : number(35, 50)); break;
            default: call(method, register()); break;
        }
    }

    private void query() {
        String method = QUERIES[random.nextInt(QUERIES.length)];
        switch (method) {
            case "register": call(method, number(0, 5), number(0, 2)); break;
            case "piece": call(method, number(0, 9), number(0, 5)); break;
            case "at": call(method, number(0, 5), number(0, 11)); break;
            case "image": call(method, number(0, 3), number(0, 2)); break;
            case "imaged": call(method, number(0, 2), number(0, 2), number(0, 8)); break;
            case "like": call(method, number(0, 5)); break;
            case "count": call(method, number(0, 9)); break;
            case "undefined": call(method, number(1, 9)); break;
            case "type": call(method, number(32, 127)); break;
            default: call(method); break;
        }
    }

    private void program() {
        call("clear");
        StringBuilder text = new StringBuilder();
        int instructions = 1 + random.nextInt(random.nextInt(4) == 0 ? 14 : 6);
        for (int n = 0; n < instructions; n++) {
            spaces(text);
            instruction(text, instructions);
        }
        spaces(text);
        if (random.nextInt(4) == 0) {
            damage(text);
        }
        for (int i = 0; i < text.length(); i++) {
            call("type", text.charAt(i));
        }
        int times = 1 + random.nextInt(3);
        for (int i = 0; i < times; i++) {
            call("does");
            call("digest");
        }
    }

    private void spaces(StringBuilder text) {
        while (random.nextInt(6) == 0) {
            text.append(' ');
        }
    }

    private int small(int to) {
        return random.nextInt(30) == 0 ? random.nextInt(100000) : random.nextInt(to + 1);
    }

    private void instruction(StringBuilder text, int instructions) {
        char letter = "mescvwldbzjssvvwwjj".charAt(random.nextInt(19));
        text.append(letter);
        operand(text, small(3));
        switch (letter) {
            case 'e':
            case 'z': break;
            case 'm': operand(text, 1 + small(5)); break;
            case 's': operand(text, random.nextBoolean() ? small(3) : random.nextInt(65536)); break;
            case 'c': operand(text, small(4)); break;
            case 'j': operand(text, small(instructions)); break;
            case 'v':
                if (random.nextBoolean()) {
                    spaces(text);
                    text.append('-').append(small(3));
                } else {
                    operand(text, small(3));
                }
                break;
            case 'd':
                operand(text, small(4));
                operand(text, small(5));
                break;
            default:
                operand(text, small(4));
                operand(text, 1 + small(1));
                break;
        }
        spaces(text);
        text.append(';');
    }

    private void operand(StringBuilder text, int n) {
        if (Character.isDigit(text.charAt(text.length() - 1))) {
            text.append(' ');
        }
        spaces(text);
        if (random.nextInt(20) == 0 && n < 100) {
            text.append("000");
        }
        text.append(n);
    }

    private void damage(StringBuilder text) {
        int i = random.nextInt(text.length() + 1);
        switch (random.nextInt(4)) {
            case 0: text.setLength(i); break;
            case 1: text.insert(i, "mescvwldbzj;- 0123456789ax\u0000\u007f".charAt(random.nextInt(28))); break;
            case 2: text.insert(i, "12345"); break;
            default:
                if (i < text.length()) {
                    text.deleteCharAt(i);
                }
                break;
        }
    }
}
