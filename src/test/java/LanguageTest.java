import com.sun.source.tree.AssertTree;
import com.sun.source.tree.BinaryTree;
import com.sun.source.tree.BlockTree;
import com.sun.source.tree.ClassTree;
import com.sun.source.tree.CompilationUnitTree;
import com.sun.source.tree.DoWhileLoopTree;
import com.sun.source.tree.EnhancedForLoopTree;
import com.sun.source.tree.ForLoopTree;
import com.sun.source.tree.ImportTree;
import com.sun.source.tree.InstanceOfTree;
import com.sun.source.tree.LambdaExpressionTree;
import com.sun.source.tree.LiteralTree;
import com.sun.source.tree.MemberReferenceTree;
import com.sun.source.tree.MethodInvocationTree;
import com.sun.source.tree.MethodTree;
import com.sun.source.tree.NewArrayTree;
import com.sun.source.tree.NewClassTree;
import com.sun.source.tree.PackageTree;
import com.sun.source.tree.SynchronizedTree;
import com.sun.source.tree.ThrowTree;
import com.sun.source.tree.Tree;
import com.sun.source.tree.TryTree;
import com.sun.source.tree.TypeCastTree;
import com.sun.source.tree.VariableTree;
import com.sun.source.tree.WhileLoopTree;
import com.sun.source.util.JavacTask;
import com.sun.source.util.TreePathScanner;
import com.sun.source.util.Trees;
import java.nio.file.Path;
import java.util.HashSet;
import java.util.LinkedHashMap;
import java.util.LinkedHashSet;
import java.util.List;
import java.util.Map;
import java.util.Set;
import java.util.TreeSet;
import javax.lang.model.element.Element;
import javax.lang.model.element.ElementKind;
import javax.lang.model.element.ExecutableElement;
import javax.lang.model.element.Modifier;
import javax.lang.model.element.VariableElement;
import javax.lang.model.type.ArrayType;
import javax.lang.model.type.DeclaredType;
import javax.lang.model.type.TypeKind;
import javax.lang.model.type.TypeMirror;
import javax.tools.JavaCompiler;
import javax.tools.StandardJavaFileManager;
import javax.tools.ToolProvider;

/** The rules of LANGUAGE.md, by their numbers, as far as they can be seen from the source. */
public final class LanguageTest extends TreePathScanner<Void, Void> {
    /** Of what rule 4 lists, that which the class has need of. */
    private static final Set<String> LIBRARY = Set.of("String.length", "String.charAt", "Math.min", "Math.max",
        "Integer.bitCount", "System.arraycopy", "Object.<init>");
    private static final Set<String> STATIC_TYPES = Set.of("int", "long", "boolean", "char", "java.lang.String",
        "int[]", "long[]", "char[]", "byte[]");
    private static final int MOST_PARAMETERS = 7, MOST_LINES = 60, MOST_DEEP = 8, MOST_CLASSES = 12, MOST_FIELDS = 20;

    private static int wrong = 0;

    private final CompilationUnitTree unit;
    private final Trees trees;
    private final Map<Element, Set<Element>> calls = new LinkedHashMap<>();
    private final Set<String> recursive = new TreeSet<>();
    private final Set<String> publicNames = new HashSet<>();
    private final Set<String> privateNames = new LinkedHashSet<>();
    private ExecutableElement within;
    private int classes = 0;
    private int loops = 0;

    private LanguageTest(CompilationUnitTree unit, Trees trees) {
        this.unit = unit;
        this.trees = trees;
    }

    private void mustBe(int rule, boolean is, String what, Tree at) {
        if (!is) {
            wrong++;
            long place = at == null ? -1 : trees.getSourcePositions().getStartPosition(unit, at);
            long line = place < 0 ? 0 : unit.getLineMap().getLineNumber(place);
            System.out.println("rule " + rule + ", line " + line + ": " + what);
        }
    }

    private Element element() {
        return trees.getElement(getCurrentPath());
    }

    private static boolean isOwn(Element e) {
        Element c = e;
        while (c.getEnclosingElement() != null && c.getEnclosingElement().getKind() != ElementKind.PACKAGE) {
            c = c.getEnclosingElement();
        }
        return c.getSimpleName().contentEquals("RockName");
    }

    private static boolean isNumber(TypeMirror type) {
        return type.getKind().isPrimitive() && type.getKind() != TypeKind.BOOLEAN;
    }

    /** Rule 3: of types that are no arrays, those of which the class has need. */
    private static boolean isPlainType(TypeMirror type) {
        return type.getKind().isPrimitive() || type.toString().equals("java.lang.String")
            || type instanceof DeclaredType && isOwn(((DeclaredType) type).asElement());
    }

    private static boolean isType(TypeMirror type) {
        if (!(type instanceof ArrayType)) {
            return isPlainType(type);
        }
        TypeMirror part = ((ArrayType) type).getComponentType();
        return part instanceof ArrayType ? isNumber(((ArrayType) part).getComponentType()) : isPlainType(part);
    }

    // ---- rules 1, 2 and 11: classes

    @Override
    public Void visitClass(ClassTree node, Void v) {
        classes++;
        Element e = element();
        Set<Modifier> is = e.getModifiers();
        if (e.getEnclosingElement().getKind() == ElementKind.PACKAGE) {
            mustBe(1, is.equals(Set.of(Modifier.PUBLIC, Modifier.FINAL)), "the class is public and final", node);
        } else {
            mustBe(1, !is.contains(Modifier.PUBLIC) && !is.contains(Modifier.PROTECTED), "shown: " + e, node);
            mustBe(2, is.contains(Modifier.STATIC), "not static: " + e, node);
            mustBe(2, e.getEnclosingElement().getKind().isClass(), "local or anonymous: " + e, node);
            mustBe(2, node.getKind() == Tree.Kind.CLASS || node.getKind() == Tree.Kind.ENUM
                || node.getKind() == Tree.Kind.RECORD || node.getKind() == Tree.Kind.INTERFACE, "of a kind: " + e, node);
        }
        long fields = e.getEnclosedElements().stream()
            .filter(f -> f.getKind() == ElementKind.FIELD && !f.getModifiers().contains(Modifier.STATIC)).count();
        mustBe(11, fields <= MOST_FIELDS, fields + " fields", node);
        for (Tree member : node.getMembers()) {
            mustBe(5, !(member instanceof BlockTree), "a block of an initialiser", member);
        }
        return super.visitClass(node, v);
    }

    // ---- rules 1, 3, 5, 11 and 12: members

    @Override
    public Void visitMethod(MethodTree node, Void v) {
        ExecutableElement e = (ExecutableElement) element();
        boolean isFace = e.getModifiers().contains(Modifier.PUBLIC);
        mustBe(1, isFace || e.getModifiers().contains(Modifier.PRIVATE) || !isOfTheFace(e), "shown: " + e, node);
        mustBe(1, !isFace || isOfTheFace(e), "public inside: " + e, node);
        if (e.getKind() == ElementKind.METHOD) {
            (isFace ? publicNames : privateNames).add(e.getSimpleName().toString());
            TypeMirror answer = e.getReturnType();
            mustBe(3, answer.getKind() == TypeKind.VOID || isType(answer), "answers a " + answer, node);
        }
        mustBe(6, node.getThrows().isEmpty(), "throws", node);
        mustBe(11, node.getParameters().size() <= MOST_PARAMETERS, "too many parameters: " + e, node);
        long first = unit.getLineMap().getLineNumber(Math.max(0, trees.getSourcePositions().getStartPosition(unit, node)));
        long end = trees.getSourcePositions().getEndPosition(unit, node);
        long lines = end < 0 ? 0 : unit.getLineMap().getLineNumber(end) - first + 1;
        mustBe(11, lines <= MOST_LINES, lines + " lines: " + e, node);
        within = e;
        calls.put(e, new LinkedHashSet<>());
        super.visitMethod(node, v);
        within = null;
        return null;
    }

    private static boolean isOfTheFace(Element e) {
        return e.getEnclosingElement().getSimpleName().contentEquals("RockName");
    }

    @Override
    public Void visitVariable(VariableTree node, Void v) {
        VariableElement e = (VariableElement) element();
        mustBe(3, isType(e.asType()), "of the type " + e.asType(), node);
        if (e.getKind() == ElementKind.FIELD) {
            Set<Modifier> is = e.getModifiers();
            mustBe(1, is.contains(Modifier.PRIVATE) || is.contains(Modifier.PUBLIC) || !isOfTheFace(e), "shown: " + e,
                node);
            if (is.contains(Modifier.STATIC)) {
                mustBe(5, is.contains(Modifier.FINAL), "static and not final: " + e, node);
                mustBe(5, STATIC_TYPES.contains(e.asType().toString()), "static of the type " + e.asType(), node);
                mustBe(5, e.getConstantValue() != null || node.getInitializer() instanceof NewArrayTree,
                    "not written out: " + e, node);
            }
        }
        return super.visitVariable(node, v);
    }

    // ---- rules 2, 4, 6 and 10: what is ruled out

    @Override
    public Void visitLambdaExpression(LambdaExpressionTree node, Void v) {
        mustBe(2, false, "a lambda", node);
        return super.visitLambdaExpression(node, v);
    }

    @Override
    public Void visitMemberReference(MemberReferenceTree node, Void v) {
        mustBe(2, false, "a method reference", node);
        return super.visitMemberReference(node, v);
    }

    @Override
    public Void visitPackage(PackageTree node, Void v) {
        mustBe(1, false, "a package line", node);
        return super.visitPackage(node, v);
    }

    @Override
    public Void visitImport(ImportTree node, Void v) {
        mustBe(4, false, "of the library: " + node.getQualifiedIdentifier(), node);
        return super.visitImport(node, v);
    }

    @Override
    public Void visitThrow(ThrowTree node, Void v) {
        mustBe(6, false, "throw", node);
        return super.visitThrow(node, v);
    }

    @Override
    public Void visitTry(TryTree node, Void v) {
        mustBe(6, false, "try", node);
        return super.visitTry(node, v);
    }

    @Override
    public Void visitSynchronized(SynchronizedTree node, Void v) {
        mustBe(6, false, "synchronized", node);
        return super.visitSynchronized(node, v);
    }

    @Override
    public Void visitAssert(AssertTree node, Void v) {
        mustBe(6, false, "assert", node);
        return super.visitAssert(node, v);
    }

    /** There is need of neither these nor of casts of objects, so that none has to be made safe. */
    @Override
    public Void visitInstanceOf(InstanceOfTree node, Void v) {
        mustBe(6, false, "instanceof", node);
        return super.visitInstanceOf(node, v);
    }

    @Override
    public Void visitTypeCast(TypeCastTree node, Void v) {
        TypeMirror type = trees.getTypeMirror(getCurrentPath());
        mustBe(6, type.getKind().isPrimitive(), "a cast to " + type, node);
        return super.visitTypeCast(node, v);
    }

    @Override
    public Void visitBinary(BinaryTree node, Void v) {
        boolean joins = node.getKind() == Tree.Kind.PLUS
            && !trees.getTypeMirror(getCurrentPath()).getKind().isPrimitive();
        mustBe(10, !joins, "texts joined by +", node);
        boolean compares = node.getKind() == Tree.Kind.EQUAL_TO || node.getKind() == Tree.Kind.NOT_EQUAL_TO;
        mustBe(6, !compares || !isText(node.getLeftOperand()) && !isText(node.getRightOperand()),
            "texts compared by == or !=", node);
        return super.visitBinary(node, v);
    }

    private boolean isText(Tree side) {
        TypeMirror type = trees.getTypeMirror(new com.sun.source.util.TreePath(getCurrentPath(), side));
        return type.toString().equals("java.lang.String") || type.toString().equals("java.lang.Integer");
    }

    @Override
    public Void visitLiteral(LiteralTree node, Void v) {
        if (node.getValue() instanceof String) {
            boolean plain = ((String) node.getValue()).chars().allMatch(c -> c >= 1 && c <= 127);
            mustBe(4, plain, "a sign that is not 1 to 127", node);
        }
        return super.visitLiteral(node, v);
    }

    // ---- rules 4, 8 and 11: calls

    @Override
    public Void visitMethodInvocation(MethodInvocationTree node, Void v) {
        Element e = element();
        if (!isOwn(e)) {
            String name = e.getEnclosingElement().getSimpleName() + "." + e.getSimpleName();
            boolean isClone = e.getSimpleName().contentEquals("clone");
            mustBe(4, LIBRARY.contains(name) && !isClone, "of the library: " + name, node);
        } else if (within != null) {
            calls.get(within).add(e);
        }
        return super.visitMethodInvocation(node, v);
    }

    /** How many calls stand open at most from this one on; one that calls itself counts once. */
    private int depthOf(Element method, Set<Element> open) {
        if (!open.add(method)) {
            recursive.add(method.getSimpleName().toString());
            return 0;
        }
        int deepest = 0;
        for (Element called : calls.getOrDefault(method, Set.of())) {
            deepest = Math.max(deepest, depthOf(called, open));
        }
        open.remove(method);
        return deepest + 1;
    }

    private void depths() {
        for (Element method : calls.keySet()) {
            int deep = depthOf(method, new HashSet<>());
            mustBe(11, deep <= MOST_DEEP, deep + " deep: " + method, null);
        }
        mustBe(8, recursive.equals(Set.of("tryFrom")), "these call themselves: " + recursive, null);
    }

    // ---- rules 9 and 12: loops, and what is made

    @Override
    public Void visitForLoop(ForLoopTree node, Void v) {
        mustBe(9, node.getCondition() != null && !node.getUpdate().isEmpty(), "a loop without an end", node);
        loops++;
        super.visitForLoop(node, v);
        loops--;
        return null;
    }

    @Override
    public Void visitWhileLoop(WhileLoopTree node, Void v) {
        boolean isBounded = node.getCondition().toString().contains(" < MOST_");
        mustBe(9, isBounded, "a loop without a counter against a bound", node);
        loops++;
        super.visitWhileLoop(node, v);
        loops--;
        return null;
    }

    @Override
    public Void visitDoWhileLoop(DoWhileLoopTree node, Void v) {
        mustBe(9, false, "do, of which the class has no need", node);
        return super.visitDoWhileLoop(node, v);
    }

    @Override
    public Void visitEnhancedForLoop(EnhancedForLoopTree node, Void v) {
        loops++;
        super.visitEnhancedForLoop(node, v);
        loops--;
        return null;
    }

    @Override
    public Void visitNewClass(NewClassTree node, Void v) {
        mustBe(2, node.getClassBody() == null, "an anonymous class", node);
        mustBe(4, isOwn(element()), "made of the library: " + node, node);
        madeAt(node);
        return super.visitNewClass(node, v);
    }

    @Override
    public Void visitNewArray(NewArrayTree node, Void v) {
        madeAt(node);
        return super.visitNewArray(node, v);
    }

    /** Rows are made with the object; an image alone is made later on. */
    private void madeAt(Tree node) {
        mustBe(12, loops == 0, "made in a loop", node);
        mustBe(12, within == null || within.getSimpleName().contentEquals("image"), "made by " + within, node);
    }

    // ---- all of them

    private void go() {
        scan(unit, null);
        for (String name : privateNames) {
            mustBe(1, !publicNames.contains(name), "bears a public name: " + name, null);
        }
        mustBe(11, classes <= MOST_CLASSES, classes + " classes", null);
        mustBe(1, publicNames.size() == 31, publicNames.size() + " public methods", null);
        depths();
    }

    public static void main(String[] args) throws Exception {
        Path source = Path.of(System.getProperty("rockname.source", "src/main/java/RockName.java"));
        JavaCompiler javac = ToolProvider.getSystemJavaCompiler();
        try (StandardJavaFileManager files = javac.getStandardFileManager(null, null, null)) {
            JavacTask task = (JavacTask) javac.getTask(null, files, null, List.of("-proc:none"), null,
                files.getJavaFileObjects(source));
            CompilationUnitTree unit = task.parse().iterator().next();
            task.analyze();
            new LanguageTest(unit, Trees.instance(task)).go();
        }
        System.out.println(wrong == 0 ? "the rules are kept" : wrong + " things are not as the rules are");
        if (wrong != 0) {
            System.exit(1);
        }
    }
}
