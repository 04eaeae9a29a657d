import com.sun.source.tree.AssertTree;
import com.sun.source.tree.BinaryTree;
import com.sun.source.tree.BlockTree;
import com.sun.source.tree.CatchTree;
import com.sun.source.tree.ClassTree;
import com.sun.source.tree.CompilationUnitTree;
import com.sun.source.tree.CompoundAssignmentTree;
import com.sun.source.tree.DoWhileLoopTree;
import com.sun.source.tree.ForLoopTree;
import com.sun.source.tree.ImportTree;
import com.sun.source.tree.LambdaExpressionTree;
import com.sun.source.tree.LiteralTree;
import com.sun.source.tree.MemberReferenceTree;
import com.sun.source.tree.MethodInvocationTree;
import com.sun.source.tree.MethodTree;
import com.sun.source.tree.NewClassTree;
import com.sun.source.tree.SynchronizedTree;
import com.sun.source.tree.ThrowTree;
import com.sun.source.tree.Tree;
import com.sun.source.tree.TryTree;
import com.sun.source.tree.VariableTree;
import com.sun.source.tree.WhileLoopTree;
import com.sun.source.util.JavacTask;
import com.sun.source.util.TreePath;
import com.sun.source.util.TreePathScanner;
import com.sun.source.util.Trees;
import java.io.IOException;
import java.nio.charset.StandardCharsets;
import java.nio.file.Files;
import java.nio.file.Path;
import java.util.ArrayList;
import java.util.HashMap;
import java.util.HashSet;
import java.util.List;
import java.util.Map;
import java.util.Set;
import java.util.TreeSet;
import javax.lang.model.element.Element;
import javax.lang.model.element.ElementKind;
import javax.lang.model.element.ExecutableElement;
import javax.lang.model.element.Modifier;
import javax.lang.model.element.TypeElement;
import javax.lang.model.type.TypeKind;
import javax.lang.model.type.TypeMirror;
import javax.tools.JavaCompiler;
import javax.tools.StandardJavaFileManager;
import javax.tools.ToolProvider;

/**
 * The rules of LANGUAGE.md that the text of the class shows, each told by its number; the compiler reads the text.
 * It allows less than the rules where the class needs no more: no recursion, and no class without a name.
 */
public final class LanguageTest extends TreePathScanner<Void, Void> {
    private static final Path PROGRAM = Path.of("src/main/java/Prereqs.java");
    private static final Set<String> REFUSALS = Set.of("IllegalStateException", "IllegalArgumentException",
            "IndexOutOfBoundsException", "ArithmeticException", "UnsupportedOperationException",
            "NoSuchElementException", "RuntimeException");
    private static final Set<String> IMPORTS = Set.of("java.util.ArrayList", "java.util.Arrays",
            "java.util.Iterator", "java.util.List", "java.util.NoSuchElementException");
    private static final Set<String> PLAIN_TYPES = Set.of("int", "long", "short", "byte", "char", "boolean", "double",
            "float", "String", "StringBuilder", "Integer", "void");
    private static final Set<String> CONSTANT_TYPES = Set.of("int", "long", "boolean", "char", "String", "int[]",
            "long[]", "char[]", "byte[]");
    private static final Map<String, String> LIBRARY = Map.of(
            "String", "length charAt isEmpty equals indexOf substring toCharArray",
            "StringBuilder", "append charAt setCharAt setLength deleteCharAt reverse length toString",
            "ArrayList", "add get set remove size isEmpty clear",
            "List", "add get set remove size isEmpty clear of",
            "Integer", "compare max min bitCount",
            "Long", "compare max min bitCount",
            "Math", "max min abs floorDiv floorMod",
            "Arrays", "copyOf copyOfRange fill",
            "System", "arraycopy",
            "Object", "");
    private static final int MOST_LINES = 60;
    private static final int MOST_DEPTH = 8;
    private static final int MOST_CLASSES = 12;
    private static final int MOST_FIELDS = 20;
    private static final int MOST_PARAMETERS = 7;

    private final CompilationUnitTree unit;
    private final JavacTask task;
    private final Trees trees;
    private final Set<String> ownClasses = new TreeSet<>();
    private final List<ExecutableElement> methods = new ArrayList<>();
    private final Map<ExecutableElement, Set<ExecutableElement>> called = new HashMap<>();

    private LanguageTest(JavacTask task) throws IOException {
        this.task = task;
        unit = task.parse().iterator().next();
        task.analyze();
        trees = Trees.instance(task);
    }

    // How a fault is told

    private String placeOf(Tree tree) {
        long at = trees.getSourcePositions().getStartPosition(unit, tree);
        return "line " + unit.getLineMap().getLineNumber(at);
    }

    private void due(int rule, Tree tree, String what, boolean isKept) {
        Check.due("rule " + rule + ", " + placeOf(tree) + ", " + what, isKept, true);
    }

    private Element elementAt(Tree tree) {
        return trees.getElement(new TreePath(getCurrentPath(), tree));
    }

    private TypeMirror typeAt(Tree tree) {
        return trees.getTypeMirror(new TreePath(getCurrentPath(), tree));
    }

    private static String nameOf(TypeMirror type) {
        return type.toString().replaceAll("\\b(\\w+\\.)+", "");
    }

    private MethodTree methodAround() {
        for (Tree around : getCurrentPath()) {
            if (around instanceof MethodTree method) {
                return method;
            }
        }
        return null;
    }

    // Rules 1, 2, 4 and 5: the file, its classes and its fields

    private void wholeFile(String text) {
        due(1, unit, "no package line", unit.getPackageName() == null);
        due(1, unit, "one class in the file", unit.getTypeDecls().size() == 1);
        due(3, unit, "signs 1 to 127", text.chars().allMatch(sign -> sign > 0 && sign < 128));
        for (ImportTree line : unit.getImports()) {
            String name = line.getQualifiedIdentifier().toString();
            due(4, line, "imports " + name, IMPORTS.contains(name) && !line.isStatic());
        }
        due(11, unit, "as few classes as " + ownClasses.size(), ownClasses.size() <= MOST_CLASSES);
    }

    @Override
    public Void visitClass(ClassTree node, Void nothing) {
        TypeElement element = (TypeElement) trees.getElement(getCurrentPath());
        boolean isInner = element.getEnclosingElement().getKind().isClass();
        if (isInner) {
            Set<Modifier> modifiers = node.getModifiers().getFlags();
            due(1, node, "an inner class is static", modifiers.contains(Modifier.STATIC));
            due(1, node, "an inner class is not public", !modifiers.contains(Modifier.PUBLIC));
            due(1, node, "an inner class is not protected", !modifiers.contains(Modifier.PROTECTED));
        }
        due(2, node, "no local or anonymous class", !node.getSimpleName().isEmpty()
                && (isInner || element.getSimpleName().contentEquals("Prereqs")));
        TypeMirror parent = element.getSuperclass();
        boolean isOwn = parent.getKind() == TypeKind.NONE || nameOf(parent).equals("Object")
                || ownClasses.contains(nameOf(parent));
        due(6, node, "no class of the library is extended", isOwn);
        int fields = 0;
        for (Tree member : node.getMembers()) {
            due(5, member, "no initialiser block", !(member instanceof BlockTree));
            boolean isField = member instanceof VariableTree field
                    && !field.getModifiers().getFlags().contains(Modifier.STATIC);
            fields += isField ? 1 : 0;
        }
        due(11, node, "as few fields as " + fields, fields <= MOST_FIELDS);
        return super.visitClass(node, nothing);
    }

    @Override
    public Void visitVariable(VariableTree node, Void nothing) {
        String type = nameOf(trees.getTypeMirror(getCurrentPath()));
        due(3, node, "the type " + type, isKnown(type));
        if (node.getModifiers().getFlags().contains(Modifier.STATIC)) {
            due(5, node, "a static field is final", node.getModifiers().getFlags().contains(Modifier.FINAL));
            due(5, node, "a constant of " + type, CONSTANT_TYPES.contains(type));
        }
        return super.visitVariable(node, nothing);
    }

    private boolean isKnown(String type) {
        String base = type.replaceFirst("(\\[\\])+$", "");
        if (type.endsWith("[][]")) {
            return PLAIN_TYPES.contains(base) && !base.startsWith("S") && !type.endsWith("[][][]");
        }
        String held = base.replaceFirst("^(ArrayList|List)<(.*)>$", "$2");
        boolean isHeld = !held.equals(base);
        return ownClasses.contains(held) || (isHeld ? held.equals("Integer") : PLAIN_TYPES.contains(held));
    }

    // Rules 1, 6, 8 and 11: methods

    @Override
    public Void visitMethod(MethodTree node, Void nothing) {
        ExecutableElement element = (ExecutableElement) trees.getElement(getCurrentPath());
        methods.add(element);
        called.put(element, new HashSet<>());
        String name = node.getName().toString();
        due(11, node, name + " has few parameters", node.getParameters().size() <= MOST_PARAMETERS);
        long begin = trees.getSourcePositions().getStartPosition(unit, node);
        long end = trees.getSourcePositions().getEndPosition(unit, node);
        if (end >= 0) {
            long lines = unit.getLineMap().getLineNumber(end) - unit.getLineMap().getLineNumber(begin) + 1;
            due(11, node, name + " has " + lines + " lines", lines <= MOST_LINES);
        }
        boolean isOfObject = Set.of("equals", "hashCode", "toString").contains(name);
        due(6, node, "no " + name + " of its own", !isOfObject);
        return super.visitMethod(node, nothing);
    }

    private void namesOfTheFace() {
        Set<String> face = new TreeSet<>();
        for (ExecutableElement method : methods) {
            if (method.getModifiers().contains(Modifier.PUBLIC) && method.getKind() == ElementKind.METHOD) {
                face.add(method.getSimpleName().toString());
            }
        }
        for (ExecutableElement method : methods) {
            boolean isPublic = method.getModifiers().contains(Modifier.PUBLIC);
            boolean clashes = !isPublic && face.contains(method.getSimpleName().toString());
            Check.due("rule 1, " + method + " bears a name of the face", clashes, false);
        }
    }

    /** How many methods stand open at once when this one is called, or more than enough if it calls itself. */
    private int depthOf(ExecutableElement method, List<ExecutableElement> open) {
        if (open.contains(method)) {
            return MOST_DEPTH + 1;
        }
        open.add(method);
        int deepest = 0;
        for (ExecutableElement next : called.get(method)) {
            for (ExecutableElement target : methods) {
                if (target.equals(next) || task.getElements().overrides(target, next,
                        (TypeElement) target.getEnclosingElement())) {
                    deepest = Math.max(deepest, depthOf(target, open));
                }
            }
        }
        open.remove(method);
        return 1 + deepest;
    }

    private void depths() {
        for (ExecutableElement method : methods) {
            int depth = depthOf(method, new ArrayList<>());
            Check.due("rules 8 and 11, " + method + " is " + depth + " deep", depth <= MOST_DEPTH, true);
        }
    }

    // Rules 4, 7 and 12: what is called and made

    @Override
    public Void visitMethodInvocation(MethodInvocationTree node, Void nothing) {
        ExecutableElement target = (ExecutableElement) elementAt(node.getMethodSelect());
        String owner = target.getEnclosingElement().getSimpleName().toString();
        String name = target.getSimpleName().toString();
        MethodTree around = methodAround();
        if (ownClasses.contains(owner)) {
            if (around != null) {
                called.get((ExecutableElement) trees.getElement(pathTo(around))).add(target);
            }
        } else if (!name.equals("<init>")) {
            boolean isListed = List.of(LIBRARY.getOrDefault(owner, "").split(" ")).contains(name);
            due(4, node, "calls " + owner + "." + name, isListed);
        }
        if (around != null && around.getReturnType() == null && ownClasses.contains(owner)) {
            boolean isFixed = name.equals("<init>") || target.getModifiers().contains(Modifier.FINAL)
                    || target.getEnclosingElement().getModifiers().contains(Modifier.FINAL);
            due(12, node, "a constructor calls " + name, isFixed);
        }
        return super.visitMethodInvocation(node, nothing);
    }

    private TreePath pathTo(Tree tree) {
        TreePath path = getCurrentPath();
        while (path.getLeaf() != tree) {
            path = path.getParentPath();
        }
        return path;
    }

    @Override
    public Void visitNewClass(NewClassTree node, Void nothing) {
        String type = nameOf(typeAt(node)).replaceFirst("<.*", "");
        boolean isMade = ownClasses.contains(type) || REFUSALS.contains(type)
                || Set.of("ArrayList", "StringBuilder", "String").contains(type);
        due(4, node, "makes " + type, isMade && node.getClassBody() == null);
        return super.visitNewClass(node, nothing);
    }

    // Rules 3 and 10: operators

    @Override
    public Void visitBinary(BinaryTree node, Void nothing) {
        String left = nameOf(typeAt(node.getLeftOperand()));
        String right = nameOf(typeAt(node.getRightOperand()));
        boolean isText = left.equals("String") || right.equals("String");
        due(10, node, "no text is joined by + or told apart by ==", !isText);
        boolean isReal = Set.of("double", "float").contains(left) || Set.of("double", "float").contains(right);
        due(3, node, "no rest of a double", !isReal || node.getKind() != Tree.Kind.REMAINDER);
        due(6, node, "no two Integers are told apart by ==", !left.equals("Integer") && !right.equals("Integer"));
        return super.visitBinary(node, nothing);
    }

    @Override
    public Void visitCompoundAssignment(CompoundAssignmentTree node, Void nothing) {
        due(10, node, "no text is joined by +=", !nameOf(typeAt(node.getVariable())).equals("String"));
        return super.visitCompoundAssignment(node, nothing);
    }

    // Rules 2, 6 and 9: what is ruled out, exceptions and loops

    @Override
    public Void visitLambdaExpression(LambdaExpressionTree node, Void nothing) {
        due(2, node, "no lambda", false);
        return super.visitLambdaExpression(node, nothing);
    }

    @Override
    public Void visitMemberReference(MemberReferenceTree node, Void nothing) {
        due(2, node, "no method reference", false);
        return super.visitMemberReference(node, nothing);
    }

    @Override
    public Void visitSynchronized(SynchronizedTree node, Void nothing) {
        due(6, node, "no synchronized", false);
        return super.visitSynchronized(node, nothing);
    }

    @Override
    public Void visitAssert(AssertTree node, Void nothing) {
        due(6, node, "no assert", false);
        return super.visitAssert(node, nothing);
    }

    @Override
    public Void visitThrow(ThrowTree node, Void nothing) {
        boolean isPlain = false;
        if (node.getExpression() instanceof NewClassTree made) {
            boolean isText = made.getArguments().stream().allMatch(text -> text instanceof LiteralTree);
            isPlain = REFUSALS.contains(made.getIdentifier().toString()) && made.getArguments().size() <= 1 && isText;
        }
        due(6, node, "throws a new refusal with a written text", isPlain);
        MethodTree around = methodAround();
        due(6, node, "no throw in a constructor", around != null && around.getReturnType() != null);
        return super.visitThrow(node, nothing);
    }

    @Override
    public Void visitTry(TryTree node, Void nothing) {
        due(6, node, "no finally and no resources", node.getFinallyBlock() == null && node.getResources().isEmpty());
        MethodTree around = methodAround();
        boolean holdsThrow = around != null && around.getBody().toString().contains("throw ");
        due(6, node, "no throw in the same method", !holdsThrow);
        for (CatchTree one : node.getCatches()) {
            due(6, one, "catches a refusal", REFUSALS.contains(one.getParameter().getType().toString()));
        }
        return super.visitTry(node, nothing);
    }

    @Override
    public Void visitForLoop(ForLoopTree node, Void nothing) {
        due(9, node, "a loop has an end", node.getCondition() != null);
        return super.visitForLoop(node, nothing);
    }

    @Override
    public Void visitWhileLoop(WhileLoopTree node, Void nothing) {
        due(9, node, "a loop has an end", !node.getCondition().toString().equals("(true)"));
        return super.visitWhileLoop(node, nothing);
    }

    @Override
    public Void visitDoWhileLoop(DoWhileLoopTree node, Void nothing) {
        due(9, node, "a loop has an end", !node.getCondition().toString().equals("(true)"));
        return super.visitDoWhileLoop(node, nothing);
    }

    private void collectClasses(ClassTree tree) {
        ownClasses.add(tree.getSimpleName().toString());
        for (Tree member : tree.getMembers()) {
            if (member instanceof ClassTree inner) {
                collectClasses(inner);
            }
        }
    }

    private void readAll() throws IOException {
        collectClasses((ClassTree) unit.getTypeDecls().get(0));
        wholeFile(Files.readString(PROGRAM));
        scan(unit, null);
        namesOfTheFace();
        depths();
        Check.due("methods were read", methods.size() > 54, true);
    }

    public static void main(String[] arguments) throws IOException {
        JavaCompiler compiler = ToolProvider.getSystemJavaCompiler();
        try (StandardJavaFileManager files = compiler.getStandardFileManager(null, null, StandardCharsets.UTF_8)) {
            List<String> options = List.of("--release", "17");
            JavacTask task = (JavacTask) compiler.getTask(null, files, null, options, null,
                    files.getJavaFileObjects(PROGRAM));
            new LanguageTest(task).readAll();
        }
        Check.end();
    }
}
