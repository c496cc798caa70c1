import com.sun.source.tree.AssertTree;
import com.sun.source.tree.BinaryTree;
import com.sun.source.tree.BlockTree;
import com.sun.source.tree.CatchTree;
import com.sun.source.tree.ClassTree;
import com.sun.source.tree.CompilationUnitTree;
import com.sun.source.tree.CompoundAssignmentTree;
import com.sun.source.tree.ExpressionTree;
import com.sun.source.tree.LambdaExpressionTree;
import com.sun.source.tree.LineMap;
import com.sun.source.tree.MemberReferenceTree;
import com.sun.source.tree.MethodInvocationTree;
import com.sun.source.tree.MethodTree;
import com.sun.source.tree.NewArrayTree;
import com.sun.source.tree.NewClassTree;
import com.sun.source.tree.SynchronizedTree;
import com.sun.source.tree.ThrowTree;
import com.sun.source.tree.Tree;
import com.sun.source.tree.TryTree;
import com.sun.source.tree.VariableTree;
import com.sun.source.util.JavacTask;
import com.sun.source.util.TreePath;
import com.sun.source.util.TreePathScanner;
import com.sun.source.util.Trees;
import java.io.IOException;
import java.nio.file.Path;
import java.util.HashMap;
import java.util.HashSet;
import java.util.List;
import java.util.Map;
import java.util.Set;
import java.util.TreeSet;
import javax.lang.model.element.Element;
import javax.lang.model.element.ElementKind;
import javax.lang.model.element.ExecutableElement;
import javax.lang.model.element.Modifier;
import javax.lang.model.element.VariableElement;
import javax.lang.model.type.TypeMirror;
import javax.tools.JavaCompiler;
import javax.tools.StandardJavaFileManager;
import javax.tools.ToolProvider;

/** The program keeps to those rules of LANGUAGE.md that can be seen in its text. */
final class Language extends TreePathScanner<Void, Void> {
    private static final Path PROGRAM = Path.of("src/main/java/Cubequarry.java");
    private static final String OWN = "Cubequarry";
    private static final Set<String> NUMBERS =
            Set.of("int", "long", "short", "byte", "char", "boolean", "double", "float");
    private static final Set<String> CONSTANTS =
            Set.of("int", "long", "boolean", "char", "java.lang.String", "int[]", "long[]", "char[]", "byte[]");
    private static final Set<String> TEXTS = Set.of("java.lang.String", "java.lang.StringBuilder");
    private static final Set<String> TEXT_CALLS = Set.of(
            "String.length", "String.charAt", "String.isEmpty", "String.equals", "String.indexOf",
            "String.substring", "String.toCharArray", "StringBuilder.append", "StringBuilder.charAt",
            "StringBuilder.setCharAt", "StringBuilder.setLength", "StringBuilder.deleteCharAt",
            "StringBuilder.reverse", "StringBuilder.length", "StringBuilder.toString");
    private static final Set<String> THROWN = Set.of(
            "IllegalStateException", "IllegalArgumentException", "IndexOutOfBoundsException",
            "ArithmeticException", "UnsupportedOperationException", "NoSuchElementException",
            "RuntimeException");

    private final Trees trees;
    private final LineMap lines;
    private final CompilationUnitTree unit;
    /** Of each method the own ones that it calls. */
    private final Map<Element, Set<Element>> calls = new HashMap<>();
    private final Set<String> publicNames = new TreeSet<>();
    private final Set<String> privateNames = new TreeSet<>();
    private int classes = 0;

    private Language(Trees trees, CompilationUnitTree unit) {
        this.trees = trees;
        this.unit = unit;
        lines = unit.getLineMap();
    }

    private Element elementOf(Tree tree) {
        return trees.getElement(TreePath.getPath(unit, tree));
    }

    private TypeMirror typeOf(Tree tree) {
        return trees.getTypeMirror(TreePath.getPath(unit, tree));
    }

    private long lineOf(long position) {
        return lines.getLineNumber(position);
    }

    private long firstLine(Tree tree) {
        return lineOf(trees.getSourcePositions().getStartPosition(unit, tree));
    }

    private long lastLine(Tree tree) {
        return lineOf(trees.getSourcePositions().getEndPosition(unit, tree));
    }

    private void rule(int number, Tree tree, String what, boolean isKept) {
        Check.is("rule " + number + ", line " + firstLine(tree) + ": " + what, isKept, true);
    }

    private static boolean isOwn(String type) {
        return type.equals(OWN) || type.startsWith(OWN + ".");
    }

    private static boolean isLetType(String type) {
        String one = type.replaceFirst("\\[\\]$", "");
        boolean isNumber = NUMBERS.contains(one) || NUMBERS.contains(one.replaceFirst("\\[\\]$", ""));
        return isNumber || TEXTS.contains(type) || isOwn(one) || type.equals("void");
    }

    private ExecutableElement methodAround() {
        for (TreePath path = getCurrentPath(); path != null; path = path.getParentPath()) {
            if (path.getLeaf() instanceof MethodTree) {
                return (ExecutableElement) elementOf(path.getLeaf());
            }
        }
        return null;
    }

    @Override
    public Void visitClass(ClassTree tree, Void nothing) {
        Set<Modifier> how = tree.getModifiers().getFlags();
        classes++;
        boolean isInside = getCurrentPath().getParentPath().getLeaf() != unit;
        boolean isOpen = how.contains(Modifier.PUBLIC) || how.contains(Modifier.PROTECTED);
        rule(1, tree, "one class, public and final", isInside || isOpen && how.contains(Modifier.FINAL));
        rule(2, tree, "classes inside are static and not open",
                !isInside || how.contains(Modifier.STATIC) && !isOpen);
        int fields = 0;
        for (Tree member : tree.getMembers()) {
            boolean isBlock = member instanceof BlockTree;
            rule(5, member, "no initialiser block", !isBlock);
            if (member instanceof VariableTree) {
                Set<Modifier> of = ((VariableTree) member).getModifiers().getFlags();
                fields += of.contains(Modifier.STATIC) ? 0 : 1;
                rule(1, member, "no open field", isInside || of.contains(Modifier.PRIVATE));
            }
        }
        rule(11, tree, "some twenty fields", fields <= 20);
        return super.visitClass(tree, nothing);
    }

    @Override
    public Void visitMethod(MethodTree tree, Void nothing) {
        ExecutableElement method = (ExecutableElement) elementOf(tree);
        String name = tree.getName().toString();
        (method.getModifiers().contains(Modifier.PUBLIC) ? publicNames : privateNames).add(name);
        calls.computeIfAbsent(method, key -> new HashSet<>());
        rule(3, tree, "an answer of the types that are let", isLetType(method.getReturnType().toString()));
        rule(6, tree, "no equals, hashCode, toString", !Set.of("equals", "hashCode", "toString").contains(name));
        rule(11, tree, "at most seven parameters", tree.getParameters().size() <= 7);
        rule(11, tree, "a short method", lastLine(tree) - firstLine(tree) < 60);
        return super.visitMethod(tree, nothing);
    }

    @Override
    public Void visitVariable(VariableTree tree, Void nothing) {
        VariableElement variable = (VariableElement) elementOf(tree);
        String type = variable.asType().toString();
        rule(3, tree, "a variable of the types that are let", isLetType(type)
                || variable.getKind() == ElementKind.EXCEPTION_PARAMETER);
        if (variable.getModifiers().contains(Modifier.STATIC)) {
            rule(5, tree, "a static field is final", variable.getModifiers().contains(Modifier.FINAL));
            rule(5, tree, "a static field is a constant, or a row written out", CONSTANTS.contains(type)
                    && (!type.endsWith("]") || isWrittenOut(tree.getInitializer())));
        }
        return super.visitVariable(tree, nothing);
    }

    private static boolean isWrittenOut(ExpressionTree row) {
        return row instanceof NewArrayTree && ((NewArrayTree) row).getInitializers() != null;
    }

    @Override
    public Void visitMethodInvocation(MethodInvocationTree tree, Void nothing) {
        ExecutableElement called = (ExecutableElement) elementOf(tree);
        String owner = called.getEnclosingElement().toString();
        ExecutableElement caller = methodAround();
        if (isOwn(owner)) {
            rule(11, tree, "calls stand in methods", caller != null);
            calls.computeIfAbsent(caller, key -> new HashSet<>()).add(called);
        } else if (called.getKind() == ElementKind.METHOD) {
            rule(4, tree, called + " of " + owner + " is let", isLetCall(called, owner));
        }
        return super.visitMethodInvocation(tree, nothing);
    }

    private static boolean isLetCall(ExecutableElement called, String owner) {
        String name = called.getSimpleName().toString();
        if (TEXT_CALLS.contains(owner.replace("java.lang.", "") + "." + name)) {
            return true;
        }
        if (!Set.of("java.lang.Math", "java.lang.Integer", "java.lang.Long").contains(owner)) {
            return false;
        }
        boolean isOverWhole = true;
        for (VariableElement parameter : called.getParameters()) {
            isOverWhole &= Set.of("int", "long").contains(parameter.asType().toString());
        }
        return isOverWhole && called.getModifiers().contains(Modifier.STATIC) && !name.endsWith("Exact");
    }

    @Override
    public Void visitNewClass(NewClassTree tree, Void nothing) {
        String made = typeOf(tree).toString();
        boolean isThrown = getCurrentPath().getParentPath().getLeaf() instanceof ThrowTree;
        rule(4, tree, made + " may be made", isThrown || isOwn(made) || TEXTS.contains(made));
        rule(2, tree, "no class without a name", tree.getClassBody() == null);
        return super.visitNewClass(tree, nothing);
    }

    @Override
    public Void visitThrow(ThrowTree tree, Void nothing) {
        boolean isNew = tree.getExpression() instanceof NewClassTree;
        rule(6, tree, "throw new", isNew);
        if (isNew) {
            NewClassTree made = (NewClassTree) tree.getExpression();
            List<? extends ExpressionTree> words = made.getArguments();
            rule(6, tree, "of those that are let", THROWN.contains(made.getIdentifier().toString()));
            rule(6, tree, "with a written text or nothing", words.isEmpty()
                    || words.size() == 1 && words.get(0).getKind() == Tree.Kind.STRING_LITERAL);
        }
        rule(6, tree, "no throw in a constructor", methodAround().getKind() == ElementKind.METHOD);
        return super.visitThrow(tree, nothing);
    }

    @Override
    public Void visitTry(TryTree tree, Void nothing) {
        rule(6, tree, "no finally, no resources", tree.getFinallyBlock() == null && tree.getResources().isEmpty());
        for (CatchTree caught : tree.getCatches()) {
            rule(6, caught, "catches what is let", THROWN.contains(caught.getParameter().getType().toString()));
        }
        return super.visitTry(tree, nothing);
    }

    @Override
    public Void visitBinary(BinaryTree tree, Void nothing) {
        rule(10, tree, "no joining by +",
                tree.getKind() != Tree.Kind.PLUS || !typeOf(tree).toString().equals("java.lang.String"));
        boolean isEquality = tree.getKind() == Tree.Kind.EQUAL_TO || tree.getKind() == Tree.Kind.NOT_EQUAL_TO;
        rule(6, tree, "no == of texts", !isEquality || !TEXTS.contains(typeOf(tree.getLeftOperand()).toString()));
        return super.visitBinary(tree, nothing);
    }

    @Override
    public Void visitCompoundAssignment(CompoundAssignmentTree tree, Void nothing) {
        rule(10, tree, "no joining by +=", !TEXTS.contains(typeOf(tree.getVariable()).toString()));
        return super.visitCompoundAssignment(tree, nothing);
    }

    @Override
    public Void visitLambdaExpression(LambdaExpressionTree tree, Void nothing) {
        rule(2, tree, "no lambda", false);
        return null;
    }

    @Override
    public Void visitMemberReference(MemberReferenceTree tree, Void nothing) {
        rule(2, tree, "no method reference", false);
        return null;
    }

    @Override
    public Void visitSynchronized(SynchronizedTree tree, Void nothing) {
        rule(6, tree, "no synchronized", false);
        return null;
    }

    @Override
    public Void visitAssert(AssertTree tree, Void nothing) {
        rule(6, tree, "no assert", false);
        return null;
    }

    /** How many calls stand open below this one at most, itself counted; 1000, if they go round. */
    private int depth(Element method, Set<Element> open) {
        if (!open.add(method)) {
            return 1000;
        }
        int deepest = 0;
        for (Element called : calls.getOrDefault(method, Set.of())) {
            deepest = Math.max(deepest, depth(called, open));
        }
        open.remove(method);
        return Math.min(1000, deepest + 1);
    }

    private void askWhole() {
        Check.is("rule 1: no package", unit.getPackageName() == null, true);
        Check.is("rule 1: one class in the file", unit.getTypeDecls().size(), 1);
        Check.is("rule 4: no import", unit.getImports().isEmpty(), true);
        Check.is("rule 11: some twelve classes", classes <= 12, true);
        for (Element method : calls.keySet()) {
            int depth = depth(method, new HashSet<>());
            Check.is("rule 11: calls from " + method + " go at most eight deep (" + depth + ")", depth <= 8, true);
        }
        privateNames.remove("<init>");
        privateNames.retainAll(publicNames);
        Check.is("rule 1: private methods with a public name", privateNames.toString(), "[]");
    }

    public static void main(String[] args) throws IOException {
        Check.place("LANGUAGE.md");
        JavaCompiler compiler = ToolProvider.getSystemJavaCompiler();
        try (StandardJavaFileManager files = compiler.getStandardFileManager(null, null, null)) {
            JavacTask task = (JavacTask) compiler.getTask(
                    null, files, null, List.of("-proc:none"), null, files.getJavaFileObjects(PROGRAM));
            CompilationUnitTree unit = task.parse().iterator().next();
            task.analyze();
            Language language = new Language(Trees.instance(task), unit);
            language.scan(unit, null);
            language.askWhole();
        }
        Check.done("Language");
    }
}
