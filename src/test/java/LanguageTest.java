import com.sun.source.tree.AssertTree;
import com.sun.source.tree.BinaryTree;
import com.sun.source.tree.BlockTree;
import com.sun.source.tree.ClassTree;
import com.sun.source.tree.CompilationUnitTree;
import com.sun.source.tree.DoWhileLoopTree;
import com.sun.source.tree.EnhancedForLoopTree;
import com.sun.source.tree.ExpressionTree;
import com.sun.source.tree.ForLoopTree;
import com.sun.source.tree.ImportTree;
import com.sun.source.tree.InstanceOfTree;
import com.sun.source.tree.LambdaExpressionTree;
import com.sun.source.tree.LiteralTree;
import com.sun.source.tree.MemberReferenceTree;
import com.sun.source.tree.MethodInvocationTree;
import com.sun.source.tree.MethodTree;
import com.sun.source.tree.NewArrayTree;
import com.sun.source.tree.NewClassTree;
import com.sun.source.tree.SynchronizedTree;
import com.sun.source.tree.ThrowTree;
import com.sun.source.tree.Tree;
import com.sun.source.tree.TryTree;
import com.sun.source.tree.TypeCastTree;
import com.sun.source.tree.VariableTree;
import com.sun.source.tree.WhileLoopTree;
import com.sun.source.util.JavacTask;
import com.sun.source.util.SourcePositions;
import com.sun.source.util.TreePath;
import com.sun.source.util.TreePathScanner;
import com.sun.source.util.Trees;
import java.nio.file.Path;
import java.util.HashMap;
import java.util.List;
import java.util.Map;
import java.util.Set;
import java.util.TreeMap;
import java.util.TreeSet;
import javax.lang.model.element.Element;
import javax.lang.model.element.ElementKind;
import javax.lang.model.element.Modifier;
import javax.lang.model.element.NestingKind;
import javax.lang.model.element.TypeElement;
import javax.lang.model.type.ArrayType;
import javax.lang.model.type.TypeKind;
import javax.lang.model.type.TypeMirror;
import javax.tools.JavaCompiler;
import javax.tools.StandardJavaFileManager;
import javax.tools.ToolProvider;

/** LANGUAGE.md, rule by rule, as far as the compiler's tree of the source tells; FaceTest looks at the face. */
public final class LanguageTest extends TreePathScanner<Void, Void> {
    private static final Path SOURCE = Path.of("src/main/java/StrawButts.java");
    /** Rule 4, as far as the class needs it: another name here must stand in LANGUAGE.md. */
    private static final Set<String> LIBRARY = Set.of("String.length", "String.charAt", "Math.min", "Math.max",
        "System.arraycopy", "Arrays.copyOf", "Arrays.fill", "Object.<init>");
    /** Rules 5 and 3. */
    private static final Set<String> CONSTANTS = Set.of("int", "long", "boolean", "char", "java.lang.String",
        "int[]", "long[]", "char[]", "byte[]");
    private static final Set<String> TEXTS = Set.of("java.lang.String", "java.lang.StringBuilder");
    /** Rule 8: what may call itself, by others or not; each carries its depth. */
    private static final Set<String> RECURSIVE = Set.of("RuleReader.readTest", "RuleReader.readFact");
    /** Rule 12: what makes anything behind the constructor. */
    private static final Set<String> MAKERS = Set.of("RuleReader.made");

    private final CompilationUnitTree unit;
    private final Trees trees;
    private final Map<String, Set<String>> calls = new TreeMap<>();
    private final Map<String, Integer> depths = new HashMap<>();
    private int classes = 0;
    private int loops = 0;
    private String method = "";

    private LanguageTest(CompilationUnitTree unit, Trees trees) {
        this.unit = unit;
        this.trees = trees;
    }

    public static void main(String[] args) throws Exception {
        JavaCompiler compiler = ToolProvider.getSystemJavaCompiler();
        try (StandardJavaFileManager files = compiler.getStandardFileManager(null, null, null)) {
            JavacTask task = (JavacTask) compiler.getTask(null, files, null, List.of("--release", "17"), null,
                files.getJavaFileObjects(SOURCE));
            CompilationUnitTree unit = task.parse().iterator().next();
            task.analyze();
            LanguageTest test = new LanguageTest(unit, Trees.instance(task));
            test.scan(unit, null);
            test.whole();
        }
        Check.finish();
    }

    private void rule(int number, Tree tree, boolean keeps) {
        long line = unit.getLineMap().getLineNumber(positions().getStartPosition(unit, tree));
        Check.due("rule " + number + " in line " + line + " (" + method + ")", 1, keeps ? 1 : 0);
    }

    private SourcePositions positions() {
        return trees.getSourcePositions();
    }

    private Element elementOf(Tree tree) {
        return trees.getElement(new TreePath(getCurrentPath(), tree));
    }

    private TypeMirror typeOf(Tree tree) {
        return trees.getTypeMirror(new TreePath(getCurrentPath(), tree));
    }

    /** What can be told of the whole file: its head, how many classes it has, how deep its calls go. */
    private void whole() {
        method = "the file";
        rule(1, unit, unit.getPackage() == null && unit.getTypeDecls().size() == 1);
        rule(11, unit, classes <= 12);
        for (String name : calls.keySet()) {
            int depth = depth(name);
            Check.due("rule 11: calls of " + name + " go " + depth + " deep", 1, depth <= 8 ? 1 : 0);
            boolean returns = reaches(name, name, new TreeSet<>());
            Check.due("rule 8: " + name + " calls itself", RECURSIVE.contains(name) ? 1 : 0, returns ? 1 : 0);
        }
    }

    /** How many calls stand open at most, its own and the library's among them; each recursive one once. */
    private int depth(String name) {
        Integer known = depths.get(name);
        if (known != null) {
            return known;
        }
        depths.put(name, 0);
        int most = 0;
        for (String callee : calls.getOrDefault(name, Set.of())) {
            most = Math.max(most, depth(callee));
        }
        if (RECURSIVE.contains(name)) {
            depths.remove(name);
        } else {
            depths.put(name, most + 1);
        }
        return most + 1;
    }

    private boolean reaches(String from, String to, Set<String> seen) {
        for (String callee : calls.getOrDefault(from, Set.of())) {
            if (callee.equals(to) || seen.add(callee) && reaches(callee, to, seen)) {
                return true;
            }
        }
        return false;
    }

    @Override
    public Void visitImport(ImportTree tree, Void nothing) {
        String name = tree.getQualifiedIdentifier().toString();
        rule(4, tree, !tree.isStatic() && Set.of("java.util.Arrays", "java.util.ArrayList", "java.util.List",
            "java.util.Iterator").contains(name));
        return super.visitImport(tree, nothing);
    }

    @Override
    public Void visitClass(ClassTree tree, Void nothing) {
        classes++;
        TypeElement element = (TypeElement) trees.getElement(getCurrentPath());
        method = element.getSimpleName().toString();
        boolean isInside = element.getNestingKind() == NestingKind.MEMBER;
        Set<Modifier> modifiers = element.getModifiers();
        if (isInside) {
            rule(1, tree, modifiers.contains(Modifier.STATIC) && !modifiers.contains(Modifier.PUBLIC)
                && !modifiers.contains(Modifier.PROTECTED));
        } else {
            rule(2, tree, element.getNestingKind() == NestingKind.TOP_LEVEL);
            rule(1, tree, modifiers.equals(Set.of(Modifier.PUBLIC, Modifier.FINAL)));
        }
        int fields = 0;
        for (Tree member : tree.getMembers()) {
            if (member instanceof VariableTree field) {
                fields += field.getModifiers().getFlags().contains(Modifier.STATIC) ? 0 : 1;
            }
            rule(5, member, !(member instanceof BlockTree));
        }
        rule(11, tree, fields <= 20);
        return super.visitClass(tree, nothing);
    }

    @Override
    public Void visitMethod(MethodTree tree, Void nothing) {
        Element element = trees.getElement(getCurrentPath());
        method = nameOf(element);
        calls.putIfAbsent(method, new TreeSet<>());
        rule(11, tree, tree.getParameters().size() <= 7);
        long from = unit.getLineMap().getLineNumber(positions().getStartPosition(unit, tree));
        long end = positions().getEndPosition(unit, tree);
        // the compiler's own constructors have no end
        rule(11, tree, end < 0 || unit.getLineMap().getLineNumber(end) - from < 60);
        if (RECURSIVE.contains(method)) {
            rule(8, tree, tree.getParameters().stream().anyMatch(p -> p.getName().contentEquals("depth")));
        }
        rule(6, tree, !Set.of("equals", "hashCode", "toString").contains(tree.getName().toString()));
        if (tree.getReturnType() != null) {
            rule(3, tree, isTaken(typeOf(tree.getReturnType())));
        }
        super.visitMethod(tree, nothing);
        method = "";
        return null;
    }

    private static String nameOf(Element element) {
        return element.getEnclosingElement().getSimpleName() + "." + element.getSimpleName();
    }

    /** Rule 3. */
    private static boolean isTaken(TypeMirror type) {
        if (type.getKind() == TypeKind.ARRAY) {
            TypeMirror part = ((ArrayType) type).getComponentType();
            boolean isRowOfNumbers = part.getKind() == TypeKind.ARRAY
                && ((ArrayType) part).getComponentType().getKind().isPrimitive();
            return part.getKind().isPrimitive() || isRowOfNumbers || isOwn(part);
        }
        return type.getKind().isPrimitive() || type.getKind() == TypeKind.VOID || isOwn(type)
            || TEXTS.contains(type.toString());
    }

    private static boolean isOwn(TypeMirror type) {
        return type.toString().startsWith("StrawButts");
    }

    @Override
    public Void visitVariable(VariableTree tree, Void nothing) {
        Element element = trees.getElement(getCurrentPath());
        TypeMirror type = element.asType();
        if (element.getKind() == ElementKind.FIELD) {
            method = nameOf(element);
        }
        rule(3, tree, isTaken(type));
        if (element.getModifiers().contains(Modifier.STATIC)) {
            rule(5, tree, element.getModifiers().contains(Modifier.FINAL) && CONSTANTS.contains(type.toString()));
        }
        return super.visitVariable(tree, nothing);
    }

    @Override
    public Void visitMethodInvocation(MethodInvocationTree tree, Void nothing) {
        Element element = elementOf(tree.getMethodSelect());
        String name = nameOf(element);
        if (!isOwn(element.getEnclosingElement().asType())) {
            rule(4, tree, LIBRARY.contains(name));
        }
        if (name.equals("Arrays.copyOf")) {
            making(tree);
        }
        calls.computeIfAbsent(method, m -> new TreeSet<>()).add(name);
        return super.visitMethodInvocation(tree, nothing);
    }

    @Override
    public Void visitNewClass(NewClassTree tree, Void nothing) {
        rule(2, tree, tree.getClassBody() == null);
        rule(4, tree, isOwn(typeOf(tree.getIdentifier())));
        calls.computeIfAbsent(method, m -> new TreeSet<>()).add(nameOf(trees.getElement(getCurrentPath())));
        making(tree);
        return super.visitNewClass(tree, nothing);
    }

    @Override
    public Void visitNewArray(NewArrayTree tree, Void nothing) {
        making(tree);
        return super.visitNewArray(tree, nothing);
    }

    /** Rule 12: made in constructors and fields, or by few methods and in no loop there. */
    private void making(Tree tree) {
        boolean isFirst = true;
        for (Tree above : getCurrentPath()) {
            isFirst &= !(above instanceof MethodTree m) || m.getName().contentEquals("<init>");
        }
        rule(12, tree, isFirst || MAKERS.contains(method) && loops == 0);
    }

    private Void loop(Tree tree, ExpressionTree condition, Runnable inside) {
        String told = condition == null ? "true" : condition.toString();
        rule(9, tree, !told.equals("true") && !told.equals("(true)"));
        loops++;
        inside.run();
        loops--;
        return null;
    }

    @Override
    public Void visitForLoop(ForLoopTree tree, Void nothing) {
        return loop(tree, tree.getCondition(), () -> super.visitForLoop(tree, nothing));
    }

    @Override
    public Void visitWhileLoop(WhileLoopTree tree, Void nothing) {
        return loop(tree, tree.getCondition(), () -> super.visitWhileLoop(tree, nothing));
    }

    @Override
    public Void visitDoWhileLoop(DoWhileLoopTree tree, Void nothing) {
        return loop(tree, tree.getCondition(), () -> super.visitDoWhileLoop(tree, nothing));
    }

    @Override
    public Void visitEnhancedForLoop(EnhancedForLoopTree tree, Void nothing) {
        return loop(tree, tree.getExpression(), () -> super.visitEnhancedForLoop(tree, nothing));
    }

    @Override
    public Void visitBinary(BinaryTree tree, Void nothing) {
        String left = String.valueOf(typeOf(tree.getLeftOperand()));
        String right = String.valueOf(typeOf(tree.getRightOperand()));
        boolean hasText = TEXTS.contains(left) || TEXTS.contains(right);
        boolean hasBox = left.equals("java.lang.Integer") && right.equals("java.lang.Integer");
        rule(10, tree, tree.getKind() != Tree.Kind.PLUS || !hasText);
        boolean compares = tree.getKind() == Tree.Kind.EQUAL_TO || tree.getKind() == Tree.Kind.NOT_EQUAL_TO;
        rule(6, tree, !compares || !hasText && !hasBox);
        return super.visitBinary(tree, nothing);
    }

    @Override
    public Void visitTypeCast(TypeCastTree tree, Void nothing) {
        rule(6, tree, typeOf(tree.getType()).getKind().isPrimitive());
        return super.visitTypeCast(tree, nothing);
    }

    @Override
    public Void visitLiteral(LiteralTree tree, Void nothing) {
        boolean isText = tree.getValue() instanceof String || tree.getValue() instanceof Character;
        rule(4, tree, !isText || tree.getValue().toString().chars().allMatch(sign -> sign >= 1 && sign <= 127));
        rule(3, tree, !(tree.getValue() instanceof Double) && !(tree.getValue() instanceof Float));
        return super.visitLiteral(tree, nothing);
    }

    @Override
    public Void visitInstanceOf(InstanceOfTree tree, Void nothing) {
        rule(6, tree, isOwn(typeOf(tree.getType())));
        return super.visitInstanceOf(tree, nothing);
    }

    @Override
    public Void visitLambdaExpression(LambdaExpressionTree tree, Void nothing) {
        rule(2, tree, false);
        return super.visitLambdaExpression(tree, nothing);
    }

    @Override
    public Void visitMemberReference(MemberReferenceTree tree, Void nothing) {
        rule(2, tree, false);
        return super.visitMemberReference(tree, nothing);
    }

    @Override
    public Void visitThrow(ThrowTree tree, Void nothing) {
        rule(6, tree, false);
        return super.visitThrow(tree, nothing);
    }

    @Override
    public Void visitTry(TryTree tree, Void nothing) {
        rule(6, tree, false);
        return super.visitTry(tree, nothing);
    }

    @Override
    public Void visitSynchronized(SynchronizedTree tree, Void nothing) {
        rule(6, tree, false);
        return super.visitSynchronized(tree, nothing);
    }

    @Override
    public Void visitAssert(AssertTree tree, Void nothing) {
        rule(6, tree, false);
        return super.visitAssert(tree, nothing);
    }
}
