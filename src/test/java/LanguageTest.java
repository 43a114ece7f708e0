import com.sun.source.tree.CompilationUnitTree;
import com.sun.source.util.JavacTask;
import java.io.IOException;
import java.lang.management.ManagementFactory;
import java.lang.reflect.Constructor;
import java.lang.reflect.Field;
import java.lang.reflect.Member;
import java.lang.reflect.Method;
import java.lang.reflect.Modifier;
import java.nio.file.Files;
import java.nio.file.Path;
import java.util.ArrayList;
import java.util.Arrays;
import java.util.List;
import java.util.Set;
import java.util.TreeSet;
import javax.tools.JavaCompiler;
import javax.tools.StandardJavaFileManager;
import javax.tools.ToolProvider;

/** What of LANGUAGE.md a program can see: the face, the parts of the language that are used, sizes and room. */
final class LanguageTest {
    private static final Path SOURCE = Path.of("src/main/java/FrozenImages.java");
    private static final String FACE = "int make(int,int);int end(int);int set(int,int);int copy(int,int);"
        + "int move(int,int);int store(int,int,int);int load(int,int,int);int compare(int,int);int blit(int,int,int);"
        + "int freeze(int);int forget(int);int budget(int);int register(int,int);int piece(int,int);int at(int,int);"
        + "int image(int,int);int imaged(int,int,int);int like(int);int count(int);int undefined(int);int type(int);"
        + "int clear();int does();int back();long digest();";
    private static final int ROOM_OF_A_RUN = 100_000;
    private static int wrong = 0;

    public static void main(String[] args) throws IOException, IllegalAccessException {
        face();
        constants();
        text();
        tree();
        room();
        System.out.println(wrong == 0 ? "the language is kept to" : wrong + " faults");
        if (wrong != 0) {
            System.exit(1);
        }
    }

    private static void need(boolean condition, String fault) {
        if (!condition) {
            wrong++;
            System.out.println(fault);
        }
    }

    private static boolean isPrivate(Member m) {
        return Modifier.isPrivate(m.getModifiers()) || m.isSynthetic();
    }

    private static String signature(Method m) {
        List<String> types = new ArrayList<>();
        for (Class<?> type : m.getParameterTypes()) {
            types.add(type.getName());
        }
        return m.getReturnType().getName() + " " + m.getName() + "(" + String.join(",", types) + ")";
    }

    private static void face() {
        need(Modifier.isPublic(FrozenImages.class.getModifiers()) && Modifier.isFinal(FrozenImages.class.getModifiers()),
            "the class is not public and final");
        Set<String> due = new TreeSet<>(Arrays.asList(FACE.split(";")));
        Set<String> found = new TreeSet<>();
        for (Method m : FrozenImages.class.getDeclaredMethods()) {
            if (!isPrivate(m)) {
                found.add(signature(m));
                need(m.getModifiers() == Modifier.PUBLIC, "not just public: " + m);
            }
        }
        need(found.equals(due), "the face is " + found);
        Constructor<?>[] constructors = FrozenImages.class.getDeclaredConstructors();
        need(constructors.length == 1 && constructors[0].getModifiers() == Modifier.PUBLIC
            && constructors[0].getParameterCount() == 0, "the constructor is not the document's");
        for (Class<?> inside : FrozenImages.class.getDeclaredClasses()) {
            need(!Modifier.isPublic(inside.getModifiers()) && !Modifier.isProtected(inside.getModifiers()),
                "a class that others see: " + inside);
        }
    }

    private static void constants() throws IllegalAccessException {
        Set<String> found = new TreeSet<>();
        for (Field f : FrozenImages.class.getDeclaredFields()) {
            if (!isPrivate(f)) {
                need(f.getModifiers() == (Modifier.PUBLIC | Modifier.STATIC | Modifier.FINAL), "no constant: " + f);
                found.add(f.getType() + " " + f.getName() + " " + f.get(null));
            }
        }
        need(found.equals(new TreeSet<>(List.of("int NONE -1", "int BAD -2", "int NO -3", "int FULL -4"))),
            "the constants are " + found);
    }

    private static void text() throws IOException {
        String text = Files.readString(SOURCE);
        need(text.chars().allMatch(c -> c == '\n' || c >= 32 && c < 127), "signs that are not plain");
        String[] lines = text.split("\n");
        for (int i = 0; i < lines.length; i++) {
            need(lines[i].length() <= 100, "too long a line: " + (i + 1));
        }
    }

    private static void tree() throws IOException {
        Set<String> face = new TreeSet<>();
        for (String signature : FACE.split(";")) {
            face.add(signature.replaceAll(".* (\\w+)\\(.*", "$1"));
        }
        JavaCompiler compiler = ToolProvider.getSystemJavaCompiler();
        try (StandardJavaFileManager files = compiler.getStandardFileManager(null, null, null)) {
            JavacTask task = (JavacTask) compiler.getTask(null, files, null, null, null, files.getJavaFileObjects(SOURCE));
            for (CompilationUnitTree unit : task.parse()) {
                for (String fault : LanguageRules.faults(unit, face)) {
                    need(false, fault);
                }
            }
        }
    }

    /** All calls of a run share some 7.3 million fields and elements: 512 dear ones may take little of it. */
    private static void room() {
        com.sun.management.ThreadMXBean threads = (com.sun.management.ThreadMXBean) ManagementFactory.getThreadMXBean();
        run();
        long before = threads.getCurrentThreadAllocatedBytes();
        run();
        long bytes = threads.getCurrentThreadAllocatedBytes() - before;
        need(bytes <= ROOM_OF_A_RUN, "a run takes " + bytes + " bytes");
    }

    private static void run() {
        FrozenImages x = new FrozenImages();
        for (int call = 0; call < 120; call++) {
            x.type("m0 4;w0 0 2;z0;s1 9;v1 -1;j1 4;".charAt(call % 31));
        }
        for (int call = 120; call < 512; call += 7) {
            x.make(call % 6, 1 + call % 12);
            x.store(call % 6, call % 5, 2);
            x.freeze(call % 6);
            x.does();
            x.like(call % 10);
            x.back();
            x.digest();
        }
    }
}
