import java.util.ArrayList;
import java.util.Arrays;
import java.util.List;
import java.util.regex.Matcher;
import java.util.regex.Pattern;

/**
 * Calls on one new object, written as in the document: make(0, 4) = 0; at(0, 0) = -1. The plain
 * model makes the same calls; at the end of a test, the state after each call, and each state that
 * is saved then, is compared with the model's.
 */
final class Script {
    private static final Pattern CALL =
        Pattern.compile("\\s*(\\w+)\\(([^)]*)\\)\\s*(?:=\\s*(-?\\d+)\\s*)?");
    // an object is used for 512 calls: some are kept for looking at the saved states
    private static final int MOST_CALLS = 495;
    private static final List<Script> scripts = new ArrayList<>();
    private static int wrong = 0;
    private static int answers = 0;

    private record Call(String method, int[] arguments) { }

    private final FrozenImages object = new FrozenImages();
    private final Model model = new Model();
    private final String name;
    private final List<Call> calls = new ArrayList<>();

    Script(String name) {
        this.name = name;
        scripts.add(this);
    }

    /** Makes the calls and says of each that does not answer as written. */
    Script due(String text) {
        for (Matcher call : calls(text)) {
            if (call.group(3) == null) {
                throw new IllegalStateException(name + ": no answer to " + call.group());
            }
            make(call, Long.parseLong(call.group(3)));
        }
        return this;
    }

    /** Makes the calls, each of which has to answer the same. */
    Script all(long due, String text) {
        for (Matcher call : calls(text)) {
            if (call.group(3) != null) {
                throw new IllegalStateException(name + ": two answers to " + call.group());
            }
            make(call, due);
        }
        return this;
    }

    /** Makes one call with its answer written apart. */
    Script due(long due, String method, int... arguments) {
        String call = method + Arrays.toString(arguments);
        check(call, call(method, arguments), due);
        return this;
    }

    /** Types a program in an empty buffer and carries it out. */
    Script does(String program, int due) {
        typed(program);
        check("does() of '" + program + "'", call("does"), due);
        return this;
    }

    Script typed(String program) {
        call("clear");
        for (int i = 0; i < program.length(); i++) {
            due(i + 1, "type", program.charAt(i));
        }
        return this;
    }

    /** Makes a call whose answer is looked at by the test itself. */
    long ask(String method, int... arguments) {
        return call(method, arguments);
    }

    private static List<Matcher> calls(String text) {
        List<Matcher> calls = new ArrayList<>();
        for (String part : text.split(";")) {
            if (!part.isBlank()) {
                Matcher call = CALL.matcher(part.strip());
                if (!call.matches()) {
                    throw new IllegalStateException("not a call: " + part);
                }
                calls.add(call);
            }
        }
        return calls;
    }

    private void make(Matcher call, long due) {
        check(call.group(), call(call.group(1), numbers(call.group(2))), due);
    }

    private long call(String method, int... arguments) {
        if (calls.size() == MOST_CALLS) {
            throw new IllegalStateException(name + ": too many calls");
        }
        long due = model.answer(method, arguments);
        calls.add(new Call(method, arguments));
        long got = answer(object, method, arguments);
        check("the model: call " + calls.size() + ", " + method, got, due);
        return got;
    }

    void check(String call, long got, long due) {
        answers++;
        if (got != due) {
            wrong++;
            System.out.println(name + ": " + call + " answered " + got + ", due is " + due);
        }
    }

    /** Ends a script whose calls but the last one are looked at elsewhere. */
    void endWithLast() {
        scripts.remove(this);
        followed(calls.size(), model);
    }

    /** Ends a test: exit code 1 if an answer was wrong. */
    static void end() {
        for (Script script : scripts) {
            script.follow();
        }
        System.out.println(answers + " answers, " + wrong + " wrong");
        if (wrong != 0 || answers == 0) {
            System.exit(1);
        }
    }

    /** Looks at the state after each call, up to the first fault. */
    private void follow() {
        Model again = new Model();
        boolean right = true;
        for (int n = 1; n <= calls.size() && right; n++) {
            Call call = calls.get(n - 1);
            again.answer(call.method(), call.arguments());
            right = followed(n, again);
        }
    }

    /** Whether a new object is in the model's state after n calls, and in each state that is saved then. */
    private boolean followed(int n, Model due) {
        int before = wrong;
        FrozenImages twin = new FrozenImages();
        for (Call call : calls.subList(0, n)) {
            answer(twin, call.method(), call.arguments());
        }
        List<Long> digests = due.digests();
        for (int i = 0; i < digests.size() && wrong == before; i++) {
            if (i > 0) {
                twin.back();
            }
            check("after " + n + " calls and " + i + " back(): digest()", twin.digest(), digests.get(i));
        }
        return wrong == before;
    }

    private static int[] numbers(String text) {
        if (text.isBlank()) {
            return new int[0];
        }
        String[] parts = text.split(",");
        int[] numbers = new int[parts.length];
        for (int i = 0; i < parts.length; i++) {
            numbers[i] = Integer.parseInt(parts[i].strip());
        }
        return numbers;
    }

    static long answer(FrozenImages x, String method, int... a) {
        switch (method) {
            case "make": return x.make(a[0], a[1]);
            case "end": return x.end(a[0]);
            case "set": return x.set(a[0], a[1]);
            case "copy": return x.copy(a[0], a[1]);
            case "move": return x.move(a[0], a[1]);
            case "store": return x.store(a[0], a[1], a[2]);
            case "load": return x.load(a[0], a[1], a[2]);
            case "compare": return x.compare(a[0], a[1]);
            case "blit": return x.blit(a[0], a[1], a[2]);
            case "freeze": return x.freeze(a[0]);
            case "forget": return x.forget(a[0]);
            case "budget": return x.budget(a[0]);
            case "register": return x.register(a[0], a[1]);
            case "piece": return x.piece(a[0], a[1]);
            case "at": return x.at(a[0], a[1]);
            case "image": return x.image(a[0], a[1]);
            case "imaged": return x.imaged(a[0], a[1], a[2]);
            case "like": return x.like(a[0]);
            case "count": return x.count(a[0]);
            case "undefined": return x.undefined(a[0]);
            case "type": return x.type(a[0]);
            case "clear": return x.clear();
            case "does": return x.does();
            case "back": return x.back();
            case "digest": return x.digest();
            default: throw new IllegalStateException("no method " + method);
        }
    }
}
