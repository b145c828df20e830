import com.sun.source.tree.BlockTree;
import com.sun.source.tree.ClassTree;
import com.sun.source.tree.CompilationUnitTree;
import com.sun.source.tree.ForLoopTree;
import com.sun.source.tree.IdentifierTree;
import com.sun.source.tree.MemberSelectTree;
import com.sun.source.tree.MethodInvocationTree;
import com.sun.source.tree.MethodTree;
import com.sun.source.tree.NewArrayTree;
import com.sun.source.tree.NewClassTree;
import com.sun.source.tree.Tree;
import com.sun.source.tree.Tree.Kind;
import com.sun.source.tree.TypeCastTree;
import com.sun.source.tree.VariableTree;
import com.sun.source.util.JavacTask;
import com.sun.source.util.SourcePositions;
import com.sun.source.util.TreePath;
import com.sun.source.util.TreePathScanner;
import com.sun.source.util.Trees;
import java.io.IOException;
import java.nio.file.Path;
import java.util.EnumSet;
import java.util.Map;
import java.util.Set;
import java.util.TreeMap;
import java.util.TreeSet;
import javax.lang.model.element.Modifier;
import javax.tools.JavaCompiler;
import javax.tools.StandardJavaFileManager;
import javax.tools.ToolProvider;

/** The rules of LANGUAGE.md that the program's own tree shows; FaceTest has those that names and words show. */
public final class LanguageTest extends TreePathScanner<Void, Void> {
    private static final Path SOURCE = Path.of("src/main/java/HashSigner.java");
    private static final int MOST_PARAMETERS = 7, MOST_LINES = 60, MOST_DEPTH = 8, MOST_CLASSES = 12, MOST_FIELDS = 20;
    private static final Set<Kind> FORBIDDEN = EnumSet.of(Kind.LAMBDA_EXPRESSION, Kind.MEMBER_REFERENCE, Kind.THROW,
        Kind.TRY, Kind.CATCH, Kind.SYNCHRONIZED, Kind.ASSERT, Kind.IMPORT, Kind.PACKAGE, Kind.ANNOTATION);
    /** Allowed with care: the program does without them, so that there is nothing to take care of. */
    private static final Set<Kind> NEEDLESS = EnumSet.of(Kind.WHILE_LOOP, Kind.DO_WHILE_LOOP, Kind.STRING_LITERAL,
        Kind.NULL_LITERAL, Kind.INSTANCE_OF, Kind.DOUBLE_LITERAL, Kind.FLOAT_LITERAL);
    /** Of what rule 3 allows, all that the program takes beside its own classes. */
    private static final Set<String> TYPES =
        Set.of("int", "long", "byte", "boolean", "void", "int[]", "long[]", "byte[]", "boolean[]");
    /** Of what rule 4 allows, all that the program takes. */
    private static final Set<String> LIBRARY = Set.of("Math.max", "System.arraycopy");
    private static final Set<String> CONSTANTS =
        Set.of("int", "long", "boolean", "char", "String", "int[]", "long[]", "char[]", "byte[]");

    private final Due due = new Due();
    /** By name alone: methods that share a name count as one, which makes the ways longer, never shorter. */
    private final Map<String, Set<String>> calls = new TreeMap<>();
    private final Map<String, Tree> types = new TreeMap<>();
    private final Set<String> ownClasses = new TreeSet<>();
    /** Methods of classes that others extend. */
    private final Set<String> openMethods = new TreeSet<>();
    private final CompilationUnitTree unit;
    private final SourcePositions positions;
    private int classes;

    private LanguageTest(CompilationUnitTree unit, SourcePositions positions) {
        this.unit = unit;
        this.positions = positions;
    }

    public static void main(String[] args) throws IOException {
        JavaCompiler compiler = ToolProvider.getSystemJavaCompiler();
        try (StandardJavaFileManager files = compiler.getStandardFileManager(null, null, null)) {
            JavacTask task = (JavacTask) compiler.getTask(null, files, null, null, null, files.getJavaFileObjects(SOURCE));
            CompilationUnitTree unit = task.parse().iterator().next();
            LanguageTest test = new LanguageTest(unit, Trees.instance(task).getSourcePositions());
            test.scan(unit, null);
            test.classesAndCalls();
            test.typesAreAllowed();
            test.constructorsCallNothingOpen();
            test.due.end();
        }
    }

    private void holds(String rule, Tree tree, boolean right) {
        long line = unit.getLineMap().getLineNumber(positions.getStartPosition(unit, tree));
        due.is("line " + line + ", " + rule, right ? 1 : 0, 1);
    }

    private Tree around(Kind... kinds) {
        for (TreePath path = getCurrentPath().getParentPath(); path != null; path = path.getParentPath()) {
            for (Kind kind : kinds) {
                if (path.getLeaf().getKind() == kind) {
                    return path.getLeaf();
                }
            }
        }
        return null;
    }

    @Override
    public Void scan(Tree tree, Void nothing) {
        if (tree != null && (FORBIDDEN.contains(tree.getKind()) || NEEDLESS.contains(tree.getKind()))) {
            holds("no " + tree.getKind(), tree, false);
        }
        return super.scan(tree, nothing);
    }

    @Override
    public Void visitClass(ClassTree type, Void nothing) {
        classes++;
        ownClasses.add(type.getSimpleName().toString());
        boolean outermost = around(Kind.CLASS) == null;
        holds("rule 2: static", type, outermost || type.getModifiers().getFlags().contains(Modifier.STATIC));
        holds("rule 2: not in a method", type, around(Kind.METHOD) == null);
        int fields = 0;
        for (Tree member : type.getMembers()) {
            boolean field = member instanceof VariableTree v && !v.getModifiers().getFlags().contains(Modifier.STATIC);
            fields += field ? 1 : 0;
            holds("rule 5: no block", member, !(member instanceof BlockTree));
        }
        holds("rule 11: fields", type, fields <= MOST_FIELDS);
        return super.visitClass(type, nothing);
    }

    @Override
    public Void visitVariable(VariableTree field, Void nothing) {
        Set<Modifier> flags = field.getModifiers().getFlags();
        types.put(String.valueOf(field.getType()), field);
        if (flags.contains(Modifier.STATIC)) {
            boolean array = field.getType().getKind() == Kind.ARRAY_TYPE;
            holds("rule 5: final", field, flags.contains(Modifier.FINAL));
            holds("rule 5: type", field, CONSTANTS.contains(field.getType().toString()));
            holds("rule 5: written out", field, field.getInitializer() != null
                && (!array || field.getInitializer() instanceof NewArrayTree a && a.getInitializers() != null));
        }
        return super.visitVariable(field, nothing);
    }

    @Override
    public Void visitMethod(MethodTree method, Void nothing) {
        calls.computeIfAbsent(method.getName().toString(), name -> new TreeSet<>());
        if (method.getReturnType() != null) {
            types.put(method.getReturnType().toString(), method);
        }
        if (around(Kind.CLASS) instanceof ClassTree type && !type.getModifiers().getFlags().contains(Modifier.FINAL)) {
            openMethods.add(method.getName().toString());
        }
        long first = unit.getLineMap().getLineNumber(positions.getStartPosition(unit, method));
        long last = unit.getLineMap().getLineNumber(Math.max(positions.getEndPosition(unit, method), 1));
        holds("rule 11: parameters", method, method.getParameters().size() <= MOST_PARAMETERS);
        holds("rule 11: lines", method, last - first < MOST_LINES);
        return super.visitMethod(method, nothing);
    }

    @Override
    public Void visitForLoop(ForLoopTree loop, Void nothing) {
        holds("rule 9: a counter and a bound", loop, loop.getCondition() != null && !loop.getUpdate().isEmpty());
        return super.visitForLoop(loop, nothing);
    }

    @Override
    public Void visitMethodInvocation(MethodInvocationTree call, Void nothing) {
        String name = call.getMethodSelect() instanceof MemberSelectTree select
            ? select.getIdentifier().toString() : call.getMethodSelect().toString();
        if (call.getMethodSelect() instanceof MemberSelectTree select
            && select.getExpression() instanceof IdentifierTree from && isLibrary(from.toString())) {
            holds("rule 4: " + select, call, LIBRARY.contains(select.toString()));
            name = select.toString();
        }
        // What stands beside a field is carried out with the constructor.
        String caller = around(Kind.METHOD) instanceof MethodTree method ? method.getName().toString() : "<init>";
        calls.computeIfAbsent(caller, key -> new TreeSet<>()).add(name);
        return super.visitMethodInvocation(call, nothing);
    }

    @Override
    public Void visitTypeCast(TypeCastTree cast, Void nothing) {
        holds("rule 6: a cast to a number", cast, cast.getType().getKind() == Kind.PRIMITIVE_TYPE);
        return super.visitTypeCast(cast, nothing);
    }

    private static boolean isLibrary(String name) {
        return Set.of("Math", "System", "Integer", "Long", "Arrays", "List", "String", "Character").contains(name);
    }

    @Override
    public Void visitNewClass(NewClassTree made, Void nothing) {
        holds("rule 2: no class without a name", made, made.getClassBody() == null);
        madeOnce("rule 12: an object", made);
        return super.visitNewClass(made, nothing);
    }

    @Override
    public Void visitNewArray(NewArrayTree made, Void nothing) {
        madeOnce("rule 12: a row", made);
        return super.visitNewArray(made, nothing);
    }

    /** What is made is made with the object: in a constructor or beside a field, and in no loop. */
    private void madeOnce(String rule, Tree made) {
        boolean inConstructor = !(around(Kind.METHOD) instanceof MethodTree method)
            || method.getName().contentEquals("<init>");
        holds(rule + " of a constructor", made, inConstructor);
        holds(rule + " of no loop", made,
            around(Kind.FOR_LOOP, Kind.ENHANCED_FOR_LOOP, Kind.WHILE_LOOP, Kind.DO_WHILE_LOOP) == null);
    }

    private void classesAndCalls() {
        due.is("rule 11: at most twelve classes", classes <= MOST_CLASSES ? 1 : 0, 1);
        for (String name : calls.keySet()) {
            int depth = depthOf(name, new TreeSet<>());
            due.is("rules 8 and 11: calls that stand open from " + name, depth <= MOST_DEPTH ? 1 : 0, 1);
        }
    }

    private void typesAreAllowed() {
        for (String name : types.keySet()) {
            holds("rule 3: " + name, types.get(name), TYPES.contains(name) || ownClasses.contains(name));
        }
    }

    private void constructorsCallNothingOpen() {
        for (String name : calls.getOrDefault("<init>", Set.of())) {
            due.is("rule 12: a constructor calls " + name + ", which others could override",
                openMethods.contains(name) ? 1 : 0, 0);
        }
    }

    /** Far above the bound where a way comes back to a method that it went through. */
    private int depthOf(String name, Set<String> open) {
        if (!open.add(name)) {
            return 100;
        }
        int most = 0;
        for (String next : calls.getOrDefault(name, Set.of())) {
            most = Math.max(most, depthOf(next, open));
        }
        open.remove(name);
        return 1 + most;
    }
}
