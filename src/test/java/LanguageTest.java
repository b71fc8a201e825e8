import com.sun.source.tree.ArrayAccessTree;
import com.sun.source.tree.AssertTree;
import com.sun.source.tree.BinaryTree;
import com.sun.source.tree.CatchTree;
import com.sun.source.tree.ClassTree;
import com.sun.source.tree.CompilationUnitTree;
import com.sun.source.tree.IdentifierTree;
import com.sun.source.tree.ImportTree;
import com.sun.source.tree.InstanceOfTree;
import com.sun.source.tree.LambdaExpressionTree;
import com.sun.source.tree.LiteralTree;
import com.sun.source.tree.MemberReferenceTree;
import com.sun.source.tree.MethodInvocationTree;
import com.sun.source.tree.MethodTree;
import com.sun.source.tree.NewArrayTree;
import com.sun.source.tree.NewClassTree;
import com.sun.source.tree.SynchronizedTree;
import com.sun.source.tree.ThrowTree;
import com.sun.source.tree.Tree;
import com.sun.source.tree.TryTree;
import com.sun.source.tree.VariableTree;
import com.sun.source.util.JavacTask;
import com.sun.source.util.TreeScanner;
import com.sun.source.util.Trees;
import java.io.File;
import java.io.IOException;
import java.util.HashSet;
import java.util.Map;
import java.util.Set;
import java.util.TreeMap;
import java.util.TreeSet;
import javax.lang.model.element.Modifier;
import javax.tools.JavaCompiler;
import javax.tools.StandardJavaFileManager;
import javax.tools.ToolProvider;

/** LANGUAGE.md, as far as the tree of the program shows whether it is kept; FaceTest looks at its rules 1 and 5. */
public final class LanguageTest extends TreeScanner<Void, Void> {
    private static final String FILE = "src/main/java/MurmurSheds.java";
    private static final Set<String> THROWN = Set.of("IllegalStateException", "IllegalArgumentException",
        "IndexOutOfBoundsException", "ArithmeticException", "UnsupportedOperationException", "NoSuchElementException",
        "RuntimeException");
    private static final Set<String> NAMED = Set.of("Math", "Integer", "String");
    private static final Set<String> LIBRARY = Set.of("Math.min", "Math.max", "Math.abs", "Integer.bitCount",
        "String.length", "String.charAt", "String.indexOf", "Word.values");
    // Where an index is used, and looked at in the lines around it.
    private static final Set<String> INDEXING = Set.of("at", "put", "copyRow", "<init>", "pastAt", "markAt");
    private static final Set<String> DIVIDING = Set.of("frostOf", "draw");
    private static final int MOST_LINES = 60;
    private static final int MOST_DEEP = 8;

    private final Check check = new Check();
    private final CompilationUnitTree unit;
    private final Trees trees;
    // Of each method, told with its class, the calls as they are written.
    private final Map<String, Set<String>> calls = new TreeMap<>();
    private final Set<String> ownClasses = new HashSet<>();
    private String type = "";
    private String method = "";

    private LanguageTest(CompilationUnitTree unit, Trees trees) {
        this.unit = unit;
        this.trees = trees;
    }

    public static void main(String[] args) throws IOException {
        JavaCompiler compiler = ToolProvider.getSystemJavaCompiler();
        try (StandardJavaFileManager files = compiler.getStandardFileManager(null, null, null)) {
            JavacTask task = (JavacTask) compiler.getTask(null, files, null, null, null,
                files.getJavaFileObjects(new File(FILE)));
            LanguageTest test = new LanguageTest(task.parse().iterator().next(), Trees.instance(task));
            test.collect();
            test.scan(test.unit, null);
            test.check.due("classes", test.ownClasses.size() <= 12, true);
            test.depths();
            test.check.end();
        }
    }

    private void collect() {
        new TreeScanner<Void, Void>() {
            @Override
            public Void visitClass(ClassTree tree, Void none) {
                ownClasses.add(tree.getSimpleName().toString());
                return super.visitClass(tree, none);
            }
        }.scan(unit, null);
    }

    private void no(String what, Tree tree) {
        long line = unit.getLineMap().getLineNumber(trees.getSourcePositions().getStartPosition(unit, tree));
        check.due(what + " in line " + line, 1, 0);
    }

    private void only(boolean kept, String what, Tree tree) {
        if (!kept) {
            no(what, tree);
        }
    }

    @Override
    public Void visitImport(ImportTree tree, Void none) {
        only(tree.getQualifiedIdentifier().toString().equals("java.util.NoSuchElementException"), "an import", tree);
        return null;
    }

    @Override
    public Void visitClass(ClassTree tree, Void none) {
        String outer = type;
        type = tree.getSimpleName().toString();
        int fields = 0;
        for (Tree member : tree.getMembers()) {
            if (member instanceof VariableTree) {
                Set<Modifier> flags = ((VariableTree) member).getModifiers().getFlags();
                fields += flags.contains(Modifier.STATIC) ? 0 : 1;
            }
        }
        only(fields <= 20, "more than twenty fields", tree);
        super.visitClass(tree, none);
        type = outer;
        return null;
    }

    @Override
    public Void visitMethod(MethodTree tree, Void none) {
        String outer = method;
        method = tree.getName().toString();
        calls.put(type + "." + method, new TreeSet<>());
        only(tree.getParameters().size() <= 7, "more than seven parameters", tree);
        long from = unit.getLineMap().getLineNumber(trees.getSourcePositions().getStartPosition(unit, tree));
        long to = unit.getLineMap().getLineNumber(trees.getSourcePositions().getEndPosition(unit, tree));
        only(to - from < MOST_LINES, "a long method", tree);
        check.due("looked at " + method, true, true);
        super.visitMethod(tree, none);
        method = outer;
        return null;
    }

    @Override
    public Void visitMethodInvocation(MethodInvocationTree tree, Void none) {
        String name = tree.getMethodSelect().toString();
        String last = name.substring(name.lastIndexOf('.') + 1);
        calls.computeIfAbsent(type + "." + method, key -> new TreeSet<>()).add(name);
        boolean onLibrary = name.matches("(Math|Integer|Long|System|Arrays|List|String|Word)\\..*");
        only(!onLibrary || LIBRARY.contains(name), "a call of " + name, tree);
        only(!last.endsWith("Exact"), "a call of " + name, tree);
        return super.visitMethodInvocation(tree, none);
    }

    @Override
    public Void visitIdentifier(IdentifierTree tree, Void none) {
        String name = tree.getName().toString();
        boolean type = name.matches("[A-Z].*[a-z].*");
        boolean known = ownClasses.contains(name) || THROWN.contains(name) || NAMED.contains(name);
        only(!type || known, "the name " + name, tree);
        return null;
    }

    @Override
    public Void visitNewClass(NewClassTree tree, Void none) {
        String name = tree.getIdentifier().toString();
        boolean thrown = THROWN.contains(name);
        only(thrown || ownClasses.contains(name), "a new " + name, tree);
        only(!thrown || tree.getArguments().size() < 2, "an exception of more than a text", tree);
        return super.visitNewClass(tree, none);
    }

    @Override
    public Void visitNewArray(NewArrayTree tree, Void none) {
        // Lengths are constants, so that none can be below 0.
        for (Tree length : tree.getDimensions()) {
            only(length.toString().matches("[A-Z0-9_ *+()]+"), "the length " + length, tree);
        }
        return super.visitNewArray(tree, none);
    }

    @Override
    public Void visitArrayAccess(ArrayAccessTree tree, Void none) {
        only(INDEXING.contains(method), "an index in " + method, tree);
        return super.visitArrayAccess(tree, none);
    }

    @Override
    public Void visitBinary(BinaryTree tree, Void none) {
        Tree.Kind kind = tree.getKind();
        if (kind == Tree.Kind.DIVIDE || kind == Tree.Kind.REMAINDER) {
            String by = tree.getRightOperand().toString();
            only(by.matches("[1-9][0-9]*L?|[A-Z_]+") || DIVIDING.contains(method), "the divisor " + by, tree);
        }
        boolean text = isText(tree.getLeftOperand()) || isText(tree.getRightOperand());
        only(!text, "a text in " + tree, tree);
        return super.visitBinary(tree, none);
    }

    private static boolean isText(Tree tree) {
        return tree instanceof LiteralTree && ((LiteralTree) tree).getValue() instanceof String;
    }

    @Override
    public Void visitThrow(ThrowTree tree, Void none) {
        only(method.equals("rests"), "a throw in " + method, tree);
        return super.visitThrow(tree, none);
    }

    @Override
    public Void visitTry(TryTree tree, Void none) {
        no("a try", tree);
        return super.visitTry(tree, none);
    }

    @Override
    public Void visitCatch(CatchTree tree, Void none) {
        no("a catch", tree);
        return super.visitCatch(tree, none);
    }

    @Override
    public Void visitLambdaExpression(LambdaExpressionTree tree, Void none) {
        no("a lambda", tree);
        return null;
    }

    @Override
    public Void visitMemberReference(MemberReferenceTree tree, Void none) {
        no("a method reference", tree);
        return null;
    }

    @Override
    public Void visitSynchronized(SynchronizedTree tree, Void none) {
        no("synchronized", tree);
        return null;
    }

    @Override
    public Void visitAssert(AssertTree tree, Void none) {
        no("an assert", tree);
        return null;
    }

    @Override
    public Void visitInstanceOf(InstanceOfTree tree, Void none) {
        no("an instanceof", tree);
        return null;
    }

    /** Calls go at most eight deep, those of a method to one that stands open already left out. */
    private void depths() {
        Set<String> recursive = Set.of("YardReader.readLaw", "YardReader.readPart", "MurmurSheds.giveFrom",
            "MurmurSheds.giveEach");
        for (String name : calls.keySet()) {
            int deep = depth(name, new HashSet<>());
            check.due("calls from " + name + " go " + deep + " deep", deep <= MOST_DEEP, true);
            check.due(name + " calls itself", reaches(name, name, new HashSet<>()), recursive.contains(name));
        }
    }

    /** The methods that a call may be of: of its own class, or the outer one, if it names no object. */
    private Set<String> called(String from, String call) {
        int dot = call.lastIndexOf('.');
        String name = call.substring(dot + 1);
        Set<String> found = new TreeSet<>();
        String own = from.substring(0, from.indexOf('.'));
        if (dot < 0) {
            found.add((calls.containsKey(own + "." + name) ? own : "MurmurSheds") + "." + name);
        } else {
            for (String one : ownClasses) {
                boolean named = !ownClasses.contains(call.substring(0, dot)) || call.startsWith(one + ".");
                if (named && !one.equals(own)) {
                    found.add(one + "." + name);
                }
            }
        }
        found.retainAll(calls.keySet());
        return found;
    }

    private Set<String> next(String from) {
        Set<String> found = new TreeSet<>();
        for (String call : calls.get(from)) {
            found.addAll(called(from, call));
        }
        return found;
    }

    private int depth(String name, Set<String> open) {
        if (!open.add(name)) {
            return 0;
        }
        int most = 0;
        for (String one : next(name)) {
            most = Math.max(most, depth(one, open));
        }
        open.remove(name);
        return most + 1;
    }

    private boolean reaches(String from, String to, Set<String> seen) {
        for (String one : next(from)) {
            if (one.equals(to) || seen.add(one) && reaches(one, to, seen)) {
                return true;
            }
        }
        return false;
    }
}
