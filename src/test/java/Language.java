import com.sun.source.tree.AnnotationTree;
import com.sun.source.tree.AssertTree;
import com.sun.source.tree.BinaryTree;
import com.sun.source.tree.ClassTree;
import com.sun.source.tree.CompilationUnitTree;
import com.sun.source.tree.CompoundAssignmentTree;
import com.sun.source.tree.DoWhileLoopTree;
import com.sun.source.tree.ExpressionTree;
import com.sun.source.tree.ForLoopTree;
import com.sun.source.tree.IdentifierTree;
import com.sun.source.tree.ImportTree;
import com.sun.source.tree.LambdaExpressionTree;
import com.sun.source.tree.LiteralTree;
import com.sun.source.tree.MemberReferenceTree;
import com.sun.source.tree.MemberSelectTree;
import com.sun.source.tree.MethodTree;
import com.sun.source.tree.NewArrayTree;
import com.sun.source.tree.NewClassTree;
import com.sun.source.tree.SynchronizedTree;
import com.sun.source.tree.ThrowTree;
import com.sun.source.tree.Tree;
import com.sun.source.tree.TryTree;
import com.sun.source.tree.TypeCastTree;
import com.sun.source.tree.UnaryTree;
import com.sun.source.tree.VariableTree;
import com.sun.source.tree.WhileLoopTree;
import com.sun.source.util.JavacTask;
import com.sun.source.util.TreePath;
import com.sun.source.util.TreePathScanner;
import com.sun.source.util.Trees;
import java.io.IOException;
import java.net.URI;
import java.util.ArrayList;
import java.util.HashSet;
import java.util.LinkedHashMap;
import java.util.List;
import java.util.Map;
import java.util.Set;
import javax.lang.model.element.Element;
import javax.lang.model.element.ElementKind;
import javax.lang.model.element.ExecutableElement;
import javax.lang.model.element.Modifier;
import javax.lang.model.element.TypeElement;
import javax.lang.model.element.VariableElement;
import javax.lang.model.type.ArrayType;
import javax.lang.model.type.DeclaredType;
import javax.lang.model.type.TypeKind;
import javax.lang.model.type.TypeMirror;
import javax.lang.model.util.Elements;
import javax.tools.JavaCompiler;
import javax.tools.JavaFileObject;
import javax.tools.SimpleJavaFileObject;
import javax.tools.ToolProvider;

/**
 * Looks through a source of ColumnHouse for what LANGUAGE.md rules out, as far as its syntax shows it. It is narrower
 * than the rules where the class needs less than they leave: no exceptions, no library but functions of Math, Integer
 * and Long, no texts, no recursion, no casts but those of numbers, no constants but ints.
 */
final class Language extends TreePathScanner<Void, Void> {
    private static final int MOST_CLASSES = 12;
    private static final int MOST_FIELDS = 20;
    private static final int MOST_PARAMETERS = 7;
    private static final int MOST_LINES = 60;
    private static final int DEEPEST = 8;
    private static final Set<String> FUNCTIONS = Set.of("java.lang.Math", "java.lang.Integer", "java.lang.Long");

    private final Trees trees;
    private final Elements elements;
    private final List<String> breaks = new ArrayList<>();
    private final List<ExecutableElement> methods = new ArrayList<>();
    private final Map<ExecutableElement, Set<ExecutableElement>> calls = new LinkedHashMap<>();
    private int classes = 0;

    private Language(Trees trees, Elements elements) {
        this.trees = trees;
        this.elements = elements;
    }

    /** What breaks a rule: the rule's number, what it is, and the line. */
    static List<String> breaks(String source) throws IOException {
        JavaFileObject file = new SimpleJavaFileObject(URI.create("string:///ColumnHouse.java"),
            JavaFileObject.Kind.SOURCE) {
            @Override
            public CharSequence getCharContent(boolean ignored) {
                return source;
            }
        };
        JavaCompiler compiler = ToolProvider.getSystemJavaCompiler();
        JavacTask task = (JavacTask) compiler.getTask(null, null, null, List.of("--release", "17"), null,
            List.of(file));
        CompilationUnitTree unit = task.parse().iterator().next();
        task.analyze();
        Language language = new Language(Trees.instance(task), task.getElements());
        language.scan(new TreePath(unit), null);
        language.unit(unit);
        language.depths();
        return language.breaks;
    }

    private void found(int rule, String what) {
        CompilationUnitTree unit = getCurrentPath() == null ? null : getCurrentPath().getCompilationUnit();
        String where = "";
        if (unit != null) {
            long position = trees.getSourcePositions().getStartPosition(unit, getCurrentPath().getLeaf());
            where = position < 0 ? "" : " in line " + unit.getLineMap().getLineNumber(position);
        }
        breaks.add("rule " + rule + ": " + what + where);
    }

    private void need(boolean holds, int rule, String what) {
        if (!holds) {
            found(rule, what);
        }
    }

    private void unit(CompilationUnitTree unit) {
        need(unit.getPackage() == null, 1, "a package line");
        need(unit.getTypeDecls().size() == 1, 1, "more than one class outside");
        need(classes <= MOST_CLASSES, 11, "too many classes");
    }

    // ---- declarations

    @Override
    public Void visitImport(ImportTree node, Void none) {
        found(4, "an import");
        return super.visitImport(node, none);
    }

    @Override
    public Void visitAnnotation(AnnotationTree node, Void none) {
        found(4, "an annotation");
        return super.visitAnnotation(node, none);
    }

    @Override
    public Void visitClass(ClassTree node, Void none) {
        classes++;
        Set<Modifier> modifiers = node.getModifiers().getFlags();
        Tree outside = getCurrentPath().getParentPath().getLeaf();
        if (outside instanceof CompilationUnitTree) {
            need(modifiers.equals(Set.of(Modifier.PUBLIC, Modifier.FINAL)), 1, "a face that is not public and final");
        } else {
            need(outside instanceof ClassTree, 2, "a local class");
            need(modifiers.contains(Modifier.STATIC) && !modifiers.contains(Modifier.PUBLIC)
                && !modifiers.contains(Modifier.PROTECTED), 1, "a class inside that is public or not static");
        }
        int fields = 0;
        for (Tree member : node.getMembers()) {
            need(member.getKind() != Tree.Kind.BLOCK, 5, "an initialiser block");
            boolean field = member instanceof VariableTree variable
                && !variable.getModifiers().getFlags().contains(Modifier.STATIC);
            fields += field ? 1 : 0;
        }
        need(fields <= MOST_FIELDS, 11, "too many fields");
        return super.visitClass(node, none);
    }

    @Override
    public Void visitMethod(MethodTree node, Void none) {
        ExecutableElement method = (ExecutableElement) trees.getElement(getCurrentPath());
        methods.add(method);
        calls.put(method, new HashSet<>());
        need(node.getParameters().size() <= MOST_PARAMETERS, 11, "too many parameters");
        need(lines(node) <= MOST_LINES, 11, "a long method");
        need(node.getThrows().isEmpty(), 6, "throws");
        if (node.getReturnType() != null) {
            need(method.getReturnType().getKind() == TypeKind.VOID || isAllowed(method.getReturnType()), 3, "a type");
        }
        if (!isFace(method)) {
            for (Element member : outermost(method).getEnclosedElements()) {
                need(member.getKind() != ElementKind.METHOD || !member.getModifiers().contains(Modifier.PUBLIC)
                    || !member.getSimpleName().equals(method.getSimpleName()), 1, "the name of a public method");
            }
        }
        return super.visitMethod(node, none);
    }

    private static boolean isFace(ExecutableElement method) {
        return method.getEnclosingElement() == outermost(method) && method.getModifiers().contains(Modifier.PUBLIC);
    }

    private long lines(MethodTree node) {
        CompilationUnitTree unit = getCurrentPath().getCompilationUnit();
        long start = trees.getSourcePositions().getStartPosition(unit, node);
        long end = trees.getSourcePositions().getEndPosition(unit, node);
        return end < 0 ? 0 : unit.getLineMap().getLineNumber(end) - unit.getLineMap().getLineNumber(start) + 1;
    }

    @Override
    public Void visitVariable(VariableTree node, Void none) {
        VariableElement variable = (VariableElement) trees.getElement(getCurrentPath());
        need(isAllowed(variable.asType()), 3, "a type");
        if (variable.getModifiers().contains(Modifier.STATIC)) {
            need(variable.getModifiers().contains(Modifier.FINAL), 5, "a static field that is not final");
            need(variable.getConstantValue() instanceof Integer, 5, "a static field that is no constant int");
        }
        if (variable.getKind() == ElementKind.FIELD && variable.getEnclosingElement() == outermost(variable)) {
            need(variable.getModifiers().contains(Modifier.PRIVATE), 1, "a field that is not private");
        }
        return super.visitVariable(node, none);
    }

    /** Numbers, classes of the file, and arrays of these, of one dimension. */
    private static boolean isAllowed(TypeMirror type) {
        if (type instanceof ArrayType array) {
            return !(array.getComponentType() instanceof ArrayType) && isAllowed(array.getComponentType());
        }
        if (type instanceof DeclaredType declared) {
            return isOwn(declared.asElement());
        }
        return type.getKind().isPrimitive();
    }

    private static TypeElement outermost(Element element) {
        Element outer = element;
        while (outer.getEnclosingElement() != null && outer.getEnclosingElement().getKind() != ElementKind.PACKAGE) {
            outer = outer.getEnclosingElement();
        }
        return outer instanceof TypeElement type ? type : null;
    }

    private static boolean isOwn(Element element) {
        TypeElement outer = outermost(element);
        return outer != null && outer.getQualifiedName().contentEquals("ColumnHouse");
    }

    // ---- what is used

    @Override
    public Void visitIdentifier(IdentifierTree node, Void none) {
        used(trees.getElement(getCurrentPath()));
        return super.visitIdentifier(node, none);
    }

    @Override
    public Void visitMemberSelect(MemberSelectTree node, Void none) {
        boolean isLength = node.getIdentifier().contentEquals("length")
            && trees.getTypeMirror(new TreePath(getCurrentPath(), node.getExpression())) instanceof ArrayType;
        if (!isLength) {
            used(trees.getElement(getCurrentPath()));
        }
        return super.visitMemberSelect(node, none);
    }

    @Override
    public Void visitNewClass(NewClassTree node, Void none) {
        used(trees.getElement(getCurrentPath()));
        need(node.getClassBody() == null, 2, "an anonymous class");
        return super.visitNewClass(node, none);
    }

    private void used(Element element) {
        if (element == null) {
            return;
        }
        if (element instanceof ExecutableElement method) {
            called(method);
        } else if (element instanceof TypeElement type) {
            need(isOwn(type) || FUNCTIONS.contains(type.getQualifiedName().toString()), 4, "the class " + type);
        } else if (element.getKind() == ElementKind.FIELD && !element.getSimpleName().contentEquals("this")) {
            need(isOwn(element) || element.getSimpleName().contentEquals("super"), 4, "the field " + element);
        }
    }

    private void called(ExecutableElement method) {
        TypeElement owner = (TypeElement) method.getEnclosingElement();
        if (!isOwn(method)) {
            boolean isObject = owner.getQualifiedName().contentEquals("java.lang.Object")
                && method.getKind() == ElementKind.CONSTRUCTOR;
            need(isObject || isFunction(owner, method), 4, "the call of " + owner + "." + method);
            return;
        }
        ExecutableElement caller = caller();
        if (caller == null) {
            return;
        }
        calls.get(caller).add(method);
        boolean may = caller.getKind() != ElementKind.CONSTRUCTOR || method.getKind() == ElementKind.CONSTRUCTOR
            || method.getModifiers().contains(Modifier.PRIVATE) || method.getModifiers().contains(Modifier.STATIC);
        need(may, 12, "a constructor that calls what could be overridden");
    }

    private static boolean isFunction(TypeElement owner, ExecutableElement method) {
        boolean ints = method.getParameters().stream().map(p -> p.asType().getKind())
            .allMatch(kind -> kind == TypeKind.INT || kind == TypeKind.LONG);
        return FUNCTIONS.contains(owner.getQualifiedName().toString()) && ints
            && method.getModifiers().contains(Modifier.STATIC) && !method.getSimpleName().toString().endsWith("Exact");
    }

    private ExecutableElement caller() {
        for (TreePath path = getCurrentPath(); path != null; path = path.getParentPath()) {
            if (path.getLeaf() instanceof MethodTree) {
                return (ExecutableElement) trees.getElement(path);
            }
        }
        return null;
    }

    /** How deep calls go; a call of a method may be one of any that overrides it. */
    private void depths() {
        for (ExecutableElement method : methods) {
            need(depth(method, new ArrayList<>()) <= DEEPEST, 11, "calls go too deep from " + method);
        }
    }

    private int depth(ExecutableElement method, List<ExecutableElement> open) {
        if (open.contains(method)) {
            found(8, "recursion of " + method);
            return 0;
        }
        open.add(method);
        int deepest = 0;
        for (ExecutableElement called : calls.getOrDefault(method, Set.of())) {
            for (ExecutableElement one : methods) {
                if (one == called || elements.overrides(one, called, (TypeElement) one.getEnclosingElement())) {
                    deepest = Math.max(deepest, depth(one, open));
                }
            }
        }
        open.remove(method);
        return deepest + 1;
    }

    // ---- what may not stand in a method

    @Override
    public Void visitLambdaExpression(LambdaExpressionTree node, Void none) {
        found(2, "a lambda");
        return super.visitLambdaExpression(node, none);
    }

    @Override
    public Void visitMemberReference(MemberReferenceTree node, Void none) {
        found(2, "a method reference");
        return super.visitMemberReference(node, none);
    }

    @Override
    public Void visitThrow(ThrowTree node, Void none) {
        found(6, "a throw, and the document has none");
        return super.visitThrow(node, none);
    }

    @Override
    public Void visitTry(TryTree node, Void none) {
        found(6, "a try");
        return super.visitTry(node, none);
    }

    @Override
    public Void visitSynchronized(SynchronizedTree node, Void none) {
        found(6, "synchronized");
        return super.visitSynchronized(node, none);
    }

    @Override
    public Void visitAssert(AssertTree node, Void none) {
        found(6, "assert");
        return super.visitAssert(node, none);
    }

    @Override
    public Void visitTypeCast(TypeCastTree node, Void none) {
        need(trees.getTypeMirror(getCurrentPath()).getKind().isPrimitive(), 6, "a cast that is not one of numbers");
        return super.visitTypeCast(node, none);
    }

    @Override
    public Void visitNewArray(NewArrayTree node, Void none) {
        need(isAllowed(trees.getTypeMirror(getCurrentPath())), 3, "an array");
        return super.visitNewArray(node, none);
    }

    @Override
    public Void visitLiteral(LiteralTree node, Void none) {
        need(!(node.getValue() instanceof String), 3, "a text");
        return super.visitLiteral(node, none);
    }

    @Override
    public Void visitBinary(BinaryTree node, Void none) {
        boolean point = isPoint(node.getLeftOperand()) || isPoint(node.getRightOperand());
        need(node.getKind() != Tree.Kind.REMAINDER || !point, 3, "a remainder of floating numbers");
        return super.visitBinary(node, none);
    }

    @Override
    public Void visitCompoundAssignment(CompoundAssignmentTree node, Void none) {
        boolean point = isPoint(node.getVariable()) || isPoint(node.getExpression());
        need(node.getKind() != Tree.Kind.REMAINDER_ASSIGNMENT || !point, 3, "a remainder of floating numbers");
        return super.visitCompoundAssignment(node, none);
    }

    @Override
    public Void visitUnary(UnaryTree node, Void none) {
        need(node.getKind() == Tree.Kind.UNARY_MINUS || !isPoint(node.getExpression()), 3,
            "a step of a floating number");
        return super.visitUnary(node, none);
    }

    private boolean isPoint(ExpressionTree operand) {
        TypeKind kind = trees.getTypeMirror(new TreePath(getCurrentPath(), operand)).getKind();
        return kind == TypeKind.FLOAT || kind == TypeKind.DOUBLE;
    }

    @Override
    public Void visitForLoop(ForLoopTree node, Void none) {
        need(isBound(node.getCondition()), 9, "a loop without an end");
        return super.visitForLoop(node, none);
    }

    @Override
    public Void visitWhileLoop(WhileLoopTree node, Void none) {
        need(isBound(node.getCondition()), 9, "a loop without an end");
        return super.visitWhileLoop(node, none);
    }

    @Override
    public Void visitDoWhileLoop(DoWhileLoopTree node, Void none) {
        need(isBound(node.getCondition()), 9, "a loop without an end");
        return super.visitDoWhileLoop(node, none);
    }

    private static boolean isBound(ExpressionTree condition) {
        return condition != null && !condition.toString().matches("\\(*true\\)*");
    }
}
