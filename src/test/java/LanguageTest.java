import java.io.IOException;
import java.lang.reflect.Constructor;
import java.lang.reflect.Field;
import java.lang.reflect.Member;
import java.lang.reflect.Method;
import java.lang.reflect.Modifier;
import java.nio.file.Files;
import java.nio.file.Path;
import java.util.ArrayList;
import java.util.Arrays;
import java.util.HashSet;
import java.util.IdentityHashMap;
import java.util.List;
import java.util.Map;
import java.util.Set;
import java.util.TreeSet;

/** What of LANGUAGE.md a program can see: the face, the words that are ruled out, sizes and room. */
final class LanguageTest {
    private static final Path SOURCE = Path.of("src/main/java/FrozenImages.java");
    private static final String FACE = "int make(int,int);int end(int);int set(int,int);int copy(int,int);"
        + "int move(int,int);int store(int,int,int);int load(int,int,int);int compare(int,int);int blit(int,int,int);"
        + "int freeze(int);int forget(int);int budget(int);int register(int,int);int piece(int,int);int at(int,int);"
        + "int image(int,int);int imaged(int,int,int);int like(int);int count(int);int undefined(int);int type(int);"
        + "int clear();int does();int back();long digest();";
    private static final String[] RULED_OUT = {"throw", "throws", "try", "catch", "synchronized", "assert", "import",
        "package", "protected", "volatile", "native", "transient", "record", "yield", "equals", "hashCode", "toString",
        "var", "Object", "Random", "Thread", "System.currentTimeMillis", "System.nanoTime"};
    private static int wrong = 0;

    public static void main(String[] args) throws IOException, IllegalAccessException {
        face();
        constants();
        classesInside();
        source();
        room();
        System.out.println(wrong == 0 ? "the language is kept to" : wrong + " faults");
        if (wrong != 0) {
            System.exit(1);
        }
    }

    private static void need(boolean condition, String fault) {
        if (!condition) {
            wrong++;
            System.out.println(fault);
        }
    }

    private static boolean isPrivate(Member m) {
        return Modifier.isPrivate(m.getModifiers()) || m.isSynthetic();
    }

    private static String signature(Method m) {
        List<String> types = new ArrayList<>();
        for (Class<?> type : m.getParameterTypes()) {
            types.add(type.getName());
        }
        return m.getReturnType().getName() + " " + m.getName() + "(" + String.join(",", types) + ")";
    }

    private static void face() {
        need(Modifier.isPublic(FrozenImages.class.getModifiers()) && Modifier.isFinal(FrozenImages.class.getModifiers()),
            "the class is not public and final");
        Set<String> due = new TreeSet<>(Arrays.asList(FACE.split(";")));
        Set<String> found = new TreeSet<>();
        Set<String> names = new HashSet<>();
        for (Method m : FrozenImages.class.getDeclaredMethods()) {
            if (!isPrivate(m)) {
                found.add(signature(m));
                names.add(m.getName());
                need(m.getModifiers() == Modifier.PUBLIC, "not just public: " + m);
            }
        }
        need(found.equals(due), "the face is " + found);
        for (Method m : FrozenImages.class.getDeclaredMethods()) {
            need(!isPrivate(m) || !names.contains(m.getName()), "private with a public name: " + m);
        }
        Constructor<?>[] constructors = FrozenImages.class.getDeclaredConstructors();
        need(constructors.length == 1 && constructors[0].getModifiers() == Modifier.PUBLIC
            && constructors[0].getParameterCount() == 0, "the constructor is not the document's");
    }

    private static void constants() throws IllegalAccessException {
        Set<String> found = new TreeSet<>();
        for (Field f : FrozenImages.class.getDeclaredFields()) {
            if (!isPrivate(f)) {
                need(f.getModifiers() == (Modifier.PUBLIC | Modifier.STATIC | Modifier.FINAL), "no constant: " + f);
                found.add(f.getType() + " " + f.getName() + " " + f.get(null));
            }
        }
        need(found.equals(new TreeSet<>(List.of("int NONE -1", "int BAD -2", "int NO -3", "int FULL -4"))),
            "the constants are " + found);
    }

    private static void classesInside() {
        Class<?>[] inside = FrozenImages.class.getDeclaredClasses();
        need(inside.length <= 12, "too many classes");
        for (Class<?> c : inside) {
            need(Modifier.isStatic(c.getModifiers()) && !Modifier.isPublic(c.getModifiers()), "not static or public: " + c);
            long fields = Arrays.stream(c.getDeclaredFields()).filter(f -> !Modifier.isStatic(f.getModifiers())).count();
            need(fields <= 20, "too many fields: " + c);
            for (Field f : c.getDeclaredFields()) {
                need(!Modifier.isStatic(f.getModifiers()) || Modifier.isFinal(f.getModifiers()), "static state: " + f);
            }
        }
    }

    private static void source() throws IOException {
        String text = Files.readString(SOURCE);
        need(text.chars().allMatch(c -> c == '\n' || c >= 32 && c < 127), "signs that are not plain");
        String code = text.replaceAll("(?s)/\\*.*?\\*/", "").replaceAll("//[^\n]*", "");
        for (String word : RULED_OUT) {
            need(!code.matches("(?s).*\\b" + word.replace(".", "\\.") + "\\b.*"), "ruled out: " + word);
        }
        need(!code.contains("->") && !code.contains("::") && !code.contains("\""), "a lambda or a text");
        need(!code.matches("(?s).*static\\s*\\{.*"), "a static block");
        int begin = 0;
        String[] lines = text.split("\n");
        for (int i = 0; i < lines.length; i++) {
            if (lines[i].matches("(    ){1,2}[a-z].*[)] [{]")) {
                begin = i;
            }
            if (lines[i].matches("(    ){1,2}[}]")) {
                need(i - begin < 60, "too long from line " + (begin + 1));
                begin = i;
            }
            need(lines[i].length() <= 100, "too long a line: " + (i + 1));
        }
    }

    /** All calls of a run share some 7.3 million fields and elements: an object takes a few thousand. */
    private static void room() throws IllegalAccessException {
        FrozenImages x = new FrozenImages();
        Map<Object, Integer> first = new IdentityHashMap<>();
        walk(x, first);
        int elements = first.values().stream().mapToInt(Integer::intValue).sum();
        need(first.size() <= 150 && elements <= 6000, "a new object takes " + first.size() + ", " + elements);
        for (int call = 0; call < 500; call++) {
            x.make(call % 6, 1 + call % 12);
            x.freeze(call % 6);
            x.does();
            if (call % 7 == 0) {
                x.back();
            }
        }
        Map<Object, Integer> last = new IdentityHashMap<>();
        walk(x, last);
        need(last.keySet().equals(first.keySet()), "calls keep new objects");
    }

    private static void walk(Object o, Map<Object, Integer> seen) throws IllegalAccessException {
        if (o == null || seen.containsKey(o)) {
            return;
        }
        if (o instanceof int[] row) {
            seen.put(o, row.length);
        } else if (o instanceof Object[] row) {
            seen.put(o, row.length);
            for (Object part : row) {
                walk(part, seen);
            }
        } else {
            Field[] fields = o.getClass().getDeclaredFields();
            seen.put(o, fields.length);
            for (Field f : fields) {
                if (!f.getType().isPrimitive()) {
                    f.setAccessible(true);
                    walk(f.get(o), seen);
                }
            }
        }
    }
}
