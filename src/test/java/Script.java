import java.util.regex.Matcher;
import java.util.regex.Pattern;

/** Calls on one new object, written as in the document: make(0, 4) = 0; at(0, 0) = -1. */
final class Script {
    private static final Pattern CALL =
        Pattern.compile("\\s*(\\w+)\\(([^)]*)\\)\\s*=\\s*(-?\\d+)\\s*");
    private static int wrong = 0;
    private static int calls = 0;

    final FrozenImages object = new FrozenImages();
    private final String name;

    Script(String name) {
        this.name = name;
    }

    /** Makes the calls and says of each that does not answer as written. */
    Script due(String text) {
        for (String part : text.split(";")) {
            if (!part.isBlank()) {
                Matcher call = CALL.matcher(part);
                if (!call.matches()) {
                    throw new IllegalStateException(name + ": not a call: " + part);
                }
                check(part.strip(), answer(call.group(1), numbers(call.group(2))),
                    Long.parseLong(call.group(3)));
            }
        }
        return this;
    }

    /** Types a program in an empty buffer and carries it out. */
    Script does(String program, int due) {
        typed(program);
        check("does() of '" + program + "'", object.does(), due);
        return this;
    }

    Script typed(String program) {
        object.clear();
        for (int i = 0; i < program.length(); i++) {
            check("type(" + (int) program.charAt(i) + ")", object.type(program.charAt(i)), i + 1);
        }
        return this;
    }

    void check(String call, long got, long due) {
        calls++;
        if (got != due) {
            wrong++;
            System.out.println(name + ": " + call + " answered " + got + ", due is " + due);
        }
    }

    /** Ends a test: exit code 1 if an answer was wrong. */
    static void end() {
        System.out.println(calls + " answers, " + wrong + " wrong");
        if (wrong != 0 || calls == 0) {
            System.exit(1);
        }
    }

    private static int[] numbers(String text) {
        if (text.isBlank()) {
            return new int[0];
        }
        String[] parts = text.split(",");
        int[] numbers = new int[parts.length];
        for (int i = 0; i < parts.length; i++) {
            numbers[i] = Integer.parseInt(parts[i].strip());
        }
        return numbers;
    }

    private long answer(String method, int[] a) {
        return answer(object, method, a);
    }

    static long answer(FrozenImages x, String method, int... a) {
        switch (method) {
            case "make": return x.make(a[0], a[1]);
            case "end": return x.end(a[0]);
            case "set": return x.set(a[0], a[1]);
            case "copy": return x.copy(a[0], a[1]);
            case "move": return x.move(a[0], a[1]);
            case "store": return x.store(a[0], a[1], a[2]);
            case "load": return x.load(a[0], a[1], a[2]);
            case "compare": return x.compare(a[0], a[1]);
            case "blit": return x.blit(a[0], a[1], a[2]);
            case "freeze": return x.freeze(a[0]);
            case "forget": return x.forget(a[0]);
            case "budget": return x.budget(a[0]);
            case "register": return x.register(a[0], a[1]);
            case "piece": return x.piece(a[0], a[1]);
            case "at": return x.at(a[0], a[1]);
            case "image": return x.image(a[0], a[1]);
            case "imaged": return x.imaged(a[0], a[1], a[2]);
            case "like": return x.like(a[0]);
            case "count": return x.count(a[0]);
            case "undefined": return x.undefined(a[0]);
            case "type": return x.type(a[0]);
            case "clear": return x.clear();
            case "does": return x.does();
            case "back": return x.back();
            case "digest": return x.digest();
            default: throw new IllegalStateException("no method " + method);
        }
    }
}
