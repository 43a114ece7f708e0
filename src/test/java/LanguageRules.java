import com.sun.source.tree.BlockTree;
import com.sun.source.tree.ClassTree;
import com.sun.source.tree.CompilationUnitTree;
import com.sun.source.tree.ForLoopTree;
import com.sun.source.tree.IdentifierTree;
import com.sun.source.tree.MemberSelectTree;
import com.sun.source.tree.MethodInvocationTree;
import com.sun.source.tree.MethodTree;
import com.sun.source.tree.NewArrayTree;
import com.sun.source.tree.NewClassTree;
import com.sun.source.tree.Tree;
import com.sun.source.tree.VariableTree;
import com.sun.source.util.TreeScanner;
import java.util.ArrayList;
import java.util.EnumSet;
import java.util.HashMap;
import java.util.List;
import java.util.Map;
import java.util.Set;
import java.util.TreeSet;
import javax.lang.model.element.Modifier;

/**
 * Faults against LANGUAGE.md that the source shows. It is stricter than the page where the class
 * needs less of the language: it uses no texts, no lists, no casts, and makes all rows in constructors.
 */
final class LanguageRules extends TreeScanner<Void, Void> {
    private static final Set<String> LIBRARY = Set.of("System.arraycopy", "Math.floorMod", "Math.floorDiv", "Math.min",
        "Math.max", "Math.abs", "Arrays.fill", "Arrays.copyOf");
    private static final Set<Tree.Kind> RULED_OUT = EnumSet.of(Tree.Kind.THROW, Tree.Kind.TRY, Tree.Kind.ASSERT,
        Tree.Kind.SYNCHRONIZED, Tree.Kind.LAMBDA_EXPRESSION, Tree.Kind.MEMBER_REFERENCE, Tree.Kind.TYPE_CAST,
        Tree.Kind.INSTANCE_OF, Tree.Kind.IMPORT, Tree.Kind.PACKAGE, Tree.Kind.ANNOTATION, Tree.Kind.WHILE_LOOP,
        Tree.Kind.DO_WHILE_LOOP, Tree.Kind.STRING_LITERAL, Tree.Kind.NULL_LITERAL, Tree.Kind.ENUM, Tree.Kind.RECORD);
    private static final int CLASSES = 12, FIELDS = 20, PARAMETERS = 7, LINES = 60, DEPTH = 8;

    private final Set<String> face;
    private final List<String> faults = new ArrayList<>();
    private final Set<String> own = new TreeSet<>();
    private final Map<String, Set<String>> calls = new HashMap<>();
    private String method = "";
    private boolean inConstructor;
    private int nesting = 0;

    private LanguageRules(Set<String> face) {
        this.face = face;
    }

    static List<String> faults(CompilationUnitTree unit, Set<String> face) {
        LanguageRules rules = new LanguageRules(face);
        rules.nameClasses(unit.getTypeDecls());
        rules.scan(unit, null);
        rules.need(rules.own.size() <= CLASSES, unit, "classes: " + rules.own.size());
        for (String name : face) {
            int depth = rules.depth(name, 1);
            rules.need(depth <= DEPTH, unit, "calls of " + name + "() go deep: " + depth);
        }
        return rules.faults;
    }

    private void nameClasses(List<? extends Tree> members) {
        for (Tree member : members) {
            if (member instanceof ClassTree inside) {
                own.add(inside.getSimpleName().toString());
                nameClasses(inside.getMembers());
            }
        }
    }

    private void need(boolean condition, Tree tree, String fault) {
        if (!condition) {
            String text = tree.toString().strip().split("\n")[0];
            faults.add(fault + ": " + text);
        }
    }

    /** How deep calls go below a method; methods of one name count as one, so that no call is missed. */
    private int depth(String name, int above) {
        int deepest = above;
        if (above <= DEPTH) {
            for (String called : calls.getOrDefault(name, Set.of())) {
                deepest = Math.max(deepest, depth(called, above + 1));
            }
        }
        return deepest;
    }

    @Override
    public Void scan(Tree tree, Void none) {
        need(tree == null || !RULED_OUT.contains(tree.getKind()), tree, "ruled out");
        return super.scan(tree, none);
    }

    @Override
    public Void visitClass(ClassTree tree, Void none) {
        Set<Modifier> modifiers = tree.getModifiers().getFlags();
        need(nesting < 2 && method.isEmpty(), tree, "a class too far inside");
        need(nesting == 0 || modifiers.contains(Modifier.STATIC), tree, "a class inside that is not static");
        int fields = 0;
        for (Tree member : tree.getMembers()) {
            if (member instanceof VariableTree field && !field.getModifiers().getFlags().contains(Modifier.STATIC)) {
                fields++;
            }
            need(!(member instanceof BlockTree), tree, "a block that is no method");
        }
        need(fields <= FIELDS, tree, "fields: " + fields);
        nesting++;
        super.visitClass(tree, none);
        nesting--;
        return null;
    }

    @Override
    public Void visitMethod(MethodTree tree, Void none) {
        method = tree.getName().toString();
        inConstructor = method.equals("<init>");
        need(tree.getParameters().size() <= PARAMETERS, tree, "parameters of " + method);
        need(tree.getThrows().isEmpty(), tree, "throws");
        need(tree.getModifiers().getFlags().contains(Modifier.PUBLIC) || !face.contains(method), tree,
            "a method inside with a name of the face");
        int lines = tree.toString().strip().split("\n").length;
        need(lines <= LINES, tree, "lines: " + lines);
        super.visitMethod(tree, none);
        method = "";
        inConstructor = false;
        return null;
    }

    @Override
    public Void visitVariable(VariableTree tree, Void none) {
        Set<Modifier> modifiers = tree.getModifiers().getFlags();
        if (method.isEmpty() && modifiers.contains(Modifier.STATIC)) {
            need(modifiers.contains(Modifier.FINAL), tree, "static state");
            need(tree.getType().getKind() == Tree.Kind.PRIMITIVE_TYPE, tree, "a constant of another kind");
        }
        return super.visitVariable(tree, none);
    }

    @Override
    public Void visitMethodInvocation(MethodInvocationTree tree, Void none) {
        Tree select = tree.getMethodSelect();
        String called = select.toString();
        if (select instanceof MemberSelectTree member) {
            called = member.getIdentifier().toString();
            String whose = member.getExpression().toString();
            need(!Character.isUpperCase(whose.charAt(0)) || LIBRARY.contains(whose + "." + called), tree, "no library");
        }
        calls.computeIfAbsent(inConstructor ? "new" : method, m -> new TreeSet<>()).add(called);
        return super.visitMethodInvocation(tree, none);
    }

    @Override
    public Void visitIdentifier(IdentifierTree tree, Void none) {
        String name = tree.getName().toString();
        boolean isClass = Character.isUpperCase(name.charAt(0)) && !name.equals(name.toUpperCase());
        need(!isClass || own.contains(name) || Set.of("System", "Math", "Arrays").contains(name), tree, "a class that is not own");
        return super.visitIdentifier(tree, none);
    }

    @Override
    public Void visitNewClass(NewClassTree tree, Void none) {
        need(inConstructor && tree.getClassBody() == null, tree, "an object that is not made in a constructor");
        return super.visitNewClass(tree, none);
    }

    @Override
    public Void visitNewArray(NewArrayTree tree, Void none) {
        need(inConstructor && tree.getDimensions().size() == 1, tree, "a row that is not made in a constructor");
        return super.visitNewArray(tree, none);
    }

    @Override
    public Void visitForLoop(ForLoopTree tree, Void none) {
        need(tree.getCondition() != null && !tree.getUpdate().isEmpty(), tree, "a loop whose end is not seen");
        return super.visitForLoop(tree, none);
    }
}
