import com.sun.source.tree.*;
import com.sun.source.util.JavacTask;
import com.sun.source.util.TreePath;
import com.sun.source.util.TreePathScanner;
import com.sun.source.util.Trees;
import java.io.IOException;
import java.net.URI;
import java.util.ArrayList;
import java.util.HashSet;
import java.util.LinkedHashMap;
import java.util.LinkedHashSet;
import java.util.List;
import java.util.Map;
import java.util.Set;
import javax.lang.model.element.Element;
import javax.lang.model.element.ElementKind;
import javax.lang.model.element.ExecutableElement;
import javax.lang.model.element.Modifier;
import javax.lang.model.element.TypeElement;
import javax.lang.model.type.ArrayType;
import javax.lang.model.type.TypeKind;
import javax.lang.model.type.TypeMirror;
import javax.tools.Diagnostic;
import javax.tools.DiagnosticCollector;
import javax.tools.JavaFileObject;
import javax.tools.SimpleJavaFileObject;
import javax.tools.ToolProvider;

/**
 * Goes through the trees that the compiler makes of a file, and notes what breaks ../shared/LANGUAGE.md. What
 * a tree does not tell is left to the eye: most of the rules 7 to 9, 12 and 13.
 */
final class Language extends TreePathScanner<Void, Void> {

    private static final int SOME_TWELVE = 14;
    private static final int SOME_TWENTY = 23;
    private static final int SOME_SIXTY = 66;
    private static final int MOST_PARAMETERS = 7;
    private static final int MOST_CALLS = 8;
    private static final Set<String> CONSTANTS = Set.of("int", "long", "boolean", "char", "java.lang.String");
    private static final Set<String> ENUM_FIELDS = Set.of("int", "long", "boolean", "java.lang.String");
    private static final Set<TypeKind> CONSTANT_ROWS =
            Set.of(TypeKind.INT, TypeKind.LONG, TypeKind.CHAR, TypeKind.BYTE);

    private final Trees trees;
    private final CompilationUnitTree unit;
    private final Library library;
    private final TypeElement program;
    private final Set<String> breaches = new LinkedHashSet<>();
    private final Map<Element, Set<Element>> calls = new LinkedHashMap<>();
    private int classes;

    private Language(Trees trees, CompilationUnitTree unit) {
        this.trees = trees;
        this.unit = unit;
        Tree first = unit.getTypeDecls().get(0);
        program = (TypeElement) trees.getElement(TreePath.getPath(unit, first));
        library = new Library(program);
    }

    /** What a class breaks, each told as "rule 6, line 12: ..."; the class has to compile. */
    static List<String> breaches(String name, String source) throws IOException {
        DiagnosticCollector<JavaFileObject> found = new DiagnosticCollector<>();
        JavacTask task = (JavacTask) ToolProvider.getSystemJavaCompiler()
                .getTask(null, null, found, List.of("-proc:none"), null, List.of(new Source(name, source)));
        CompilationUnitTree unit = task.parse().iterator().next();
        task.analyze();
        for (Diagnostic<?> each : found.getDiagnostics()) {
            if (each.getKind() == Diagnostic.Kind.ERROR) {
                throw new IllegalArgumentException(name + " does not compile: " + each);
            }
        }
        Language language = new Language(Trees.instance(task), unit);
        language.scan(new TreePath(unit), null);
        language.signs(source);
        language.depths();
        return new ArrayList<>(language.breaches);
    }

    private static final class Source extends SimpleJavaFileObject {
        private final String text;

        Source(String name, String text) {
            super(URI.create("text:///" + name + ".java"), Kind.SOURCE);
            this.text = text;
        }

        @Override
        public CharSequence getCharContent(boolean ignoresErrors) {
            return text;
        }
    }

    private long line(long position) {
        return position < 0 ? 0 : unit.getLineMap().getLineNumber(position);
    }

    private void breach(int rule, Tree tree, String what) {
        breaches.add("rule " + rule + ", line " + line(trees.getSourcePositions().getStartPosition(unit, tree))
                + ": " + what);
    }

    private Element element() {
        return trees.getElement(getCurrentPath());
    }

    private TypeMirror type(Tree tree) {
        return trees.getTypeMirror(new TreePath(getCurrentPath(), tree));
    }

    private boolean isA(Tree tree, String name) {
        TypeMirror type = type(tree);
        return type != null && Library.nameOf(type).equals(name);
    }

    // ---- the file and its classes

    private void signs(String source) {
        for (int index = 0; index < source.length(); index++) {
            if (source.charAt(index) < 1 || source.charAt(index) > 127) {
                breaches.add("rule 4, line " + line(index) + ": a sign that is not 1 to 127");
            }
        }
    }

    @Override
    public Void visitCompilationUnit(CompilationUnitTree tree, Void none) {
        if (tree.getPackage() != null) {
            breach(1, tree, "a package line");
        }
        if (tree.getTypeDecls().size() != 1) {
            breach(1, tree, "more than one class outside");
        }
        return super.visitCompilationUnit(tree, none);
    }

    @Override
    public Void visitImport(ImportTree tree, Void none) {
        if (tree.isStatic() || !Library.IMPORTS.contains(tree.getQualifiedIdentifier().toString())) {
            breach(4, tree, "the import " + tree.getQualifiedIdentifier());
        }
        return null;
    }

    @Override
    public Void visitClass(ClassTree tree, Void none) {
        Element element = element();
        classes++;
        if (classes == SOME_TWELVE + 1) {
            breach(11, tree, "more than some twelve classes");
        }
        Set<Modifier> modifiers = element.getModifiers();
        if (element.equals(program)) {
            if (!modifiers.contains(Modifier.PUBLIC) || !modifiers.contains(Modifier.FINAL)) {
                breach(1, tree, "a program that is not public and final");
            }
        } else if (!(element.getEnclosingElement() instanceof TypeElement) || !modifiers.contains(Modifier.STATIC)) {
            breach(2, tree, "a class that is not static, or stands in a method");
        } else if (modifiers.contains(Modifier.PUBLIC) || modifiers.contains(Modifier.PROTECTED)) {
            breach(1, tree, "a class inside that is public or protected");
        }
        long fields = element.getEnclosedElements().stream()
                .filter(each -> each.getKind() == ElementKind.FIELD && !each.getModifiers().contains(Modifier.STATIC))
                .count();
        if (fields > SOME_TWENTY) {
            breach(11, tree, "more than some twenty fields");
        }
        return super.visitClass(tree, none);
    }

    @Override
    public Void visitBlock(BlockTree tree, Void none) {
        if (tree.isStatic()) {
            breach(5, tree, "a static block");
        }
        return super.visitBlock(tree, none);
    }

    private void member(Tree tree, Element element) {
        Set<Modifier> modifiers = element.getModifiers();
        boolean isOfProgram = program.equals(element.getEnclosingElement());
        if (isOfProgram && !modifiers.contains(Modifier.PUBLIC) && !modifiers.contains(Modifier.PRIVATE)) {
            breach(1, tree, "a member of the program that is neither public nor private");
        }
    }

    // ---- methods

    @Override
    public Void visitMethod(MethodTree tree, Void none) {
        ExecutableElement method = (ExecutableElement) element();
        String name = method.getSimpleName().toString();
        member(tree, method);
        if (method.getModifiers().contains(Modifier.PRIVATE) && bearsAPublicName(name)) {
            breach(1, tree, "a private method " + name + ", as a public one");
        }
        if (method.getParameters().size() > MOST_PARAMETERS) {
            breach(11, tree, "more than seven parameters");
        }
        if (!library.hasType(method.getReturnType())) {
            breach(3, tree, "the type " + method.getReturnType());
        }
        if (Set.of("equals", "hashCode", "toString").contains(name) || !method.getThrownTypes().isEmpty()) {
            breach(6, tree, "an equals, a hashCode, a toString or a throws");
        }
        long from = trees.getSourcePositions().getStartPosition(unit, tree);
        long behind = trees.getSourcePositions().getEndPosition(unit, tree);
        if (line(behind) - line(from) >= SOME_SIXTY) {
            breach(11, tree, "more than some sixty lines");
        }
        calls.putIfAbsent(method, new LinkedHashSet<>());
        return super.visitMethod(tree, none);
    }

    private boolean bearsAPublicName(String name) {
        return program.getEnclosedElements().stream().anyMatch(each -> each.getKind() == ElementKind.METHOD
                && each.getModifiers().contains(Modifier.PUBLIC) && each.getSimpleName().contentEquals(name));
    }

    @Override
    public Void visitMethodInvocation(MethodInvocationTree tree, Void none) {
        ExecutableElement called = (ExecutableElement) element();
        if (library.isOwn(called)) {
            callsFromHere(called);
        } else if (called.getKind() == ElementKind.METHOD) {
            Tree select = tree.getMethodSelect();
            TypeMirror first = tree.getArguments().isEmpty() ? null : type(tree.getArguments().get(0));
            boolean isAllowed = select instanceof MemberSelectTree
                    && library.hasMethod(type(((MemberSelectTree) select).getExpression()), called, first);
            if (!isAllowed) {
                breach(4, tree, "the call " + called.getEnclosingElement() + "." + called);
            }
            changesAConstantRow(tree, called.getSimpleName().toString());
        }
        return super.visitMethodInvocation(tree, none);
    }

    private void changesAConstantRow(MethodInvocationTree tree, String name) {
        int changed = name.equals("arraycopy") ? 2 : name.equals("fill") ? 0 : -1;
        if (changed >= 0 && isStaticField(tree.getArguments().get(changed))) {
            breach(5, tree, "an array of constants that is changed");
        }
    }

    private void callsFromHere(ExecutableElement called) {
        for (TreePath at = getCurrentPath(); at != null; at = at.getParentPath()) {
            if (at.getLeaf() instanceof MethodTree) {
                calls.computeIfAbsent(trees.getElement(at), caller -> new LinkedHashSet<>()).add(called);
                return;
            }
        }
    }

    private void depths() {
        for (Element method : calls.keySet()) {
            int depth = depth(method, new HashSet<>());
            if (depth > MOST_CALLS) {
                breach(11, trees.getTree(method), "calls that go " + depth + " deep");
            }
        }
    }

    /** How deep the calls of a method go; a call back to one that stands open is recursion, and left out. */
    private int depth(Element method, Set<Element> open) {
        int deepest = 0;
        if (open.add(method)) {
            for (Element called : calls.getOrDefault(method, Set.of())) {
                deepest = Math.max(deepest, open.contains(called) ? 0 : depth(called, open));
            }
            open.remove(method);
        }
        return deepest + 1;
    }

    // ---- variables and what is made

    @Override
    public Void visitVariable(VariableTree tree, Void none) {
        Element variable = element();
        TypeMirror type = variable.asType();
        if (!library.hasType(type)) {
            breach(3, tree, "the type " + type);
        }
        if (variable.getKind() == ElementKind.FIELD) {
            member(tree, variable);
            if (variable.getModifiers().contains(Modifier.STATIC)) {
                constant(tree, variable);
            } else if (variable.getEnclosingElement().getKind() == ElementKind.ENUM
                    && !ENUM_FIELDS.contains(type.toString())) {
                breach(2, tree, "a field of an enum with the type " + type);
            }
        }
        return super.visitVariable(tree, none);
    }

    private void constant(VariableTree tree, Element variable) {
        TypeMirror type = variable.asType();
        boolean isConstant = CONSTANTS.contains(type.toString());
        if (type.getKind() == TypeKind.ARRAY) {
            TypeMirror component = ((ArrayType) type).getComponentType();
            boolean isWrittenOut = tree.getInitializer() instanceof NewArrayTree
                    && ((NewArrayTree) tree.getInitializer()).getInitializers() != null;
            isConstant = isWrittenOut && CONSTANT_ROWS.contains(component.getKind()) || library.isOwnType(component);
        }
        if (!isConstant || !variable.getModifiers().contains(Modifier.FINAL)) {
            breach(5, tree, "static state");
        }
    }

    private boolean isStaticField(Tree tree) {
        Element element = trees.getElement(new TreePath(getCurrentPath(), tree));
        return element != null && element.getKind() == ElementKind.FIELD
                && element.getModifiers().contains(Modifier.STATIC);
    }

    private void changes(Tree target) {
        if (target instanceof ArrayAccessTree && isStaticField(((ArrayAccessTree) target).getExpression())) {
            breach(5, target, "an array of constants that is changed");
        }
    }

    @Override
    public Void visitAssignment(AssignmentTree tree, Void none) {
        changes(tree.getVariable());
        return super.visitAssignment(tree, none);
    }

    @Override
    public Void visitNewClass(NewClassTree tree, Void none) {
        if (tree.getClassBody() != null) {
            breach(2, tree, "an anonymous class, or a constant with a body");
        } else if (!library.hasConstructor(type(tree.getIdentifier()), (ExecutableElement) element())) {
            breach(4, tree, "new " + tree.getIdentifier());
        } else if (library.isOwn(element())) {
            callsFromHere((ExecutableElement) element());
        }
        return super.visitNewClass(tree, none);
    }

    @Override
    public Void visitNewArray(NewArrayTree tree, Void none) {
        TypeMirror type = trees.getTypeMirror(getCurrentPath());
        if (!library.hasType(type)) {
            breach(3, tree, "the type " + type);
        }
        return super.visitNewArray(tree, none);
    }

    // ---- statements and expressions

    @Override
    public Void visitThrow(ThrowTree tree, Void none) {
        breach(6, tree, "throw");
        return super.visitThrow(tree, none);
    }

    @Override
    public Void visitTry(TryTree tree, Void none) {
        breach(6, tree, "try");
        return super.visitTry(tree, none);
    }

    @Override
    public Void visitSynchronized(SynchronizedTree tree, Void none) {
        breach(6, tree, "synchronized");
        return super.visitSynchronized(tree, none);
    }

    @Override
    public Void visitAssert(AssertTree tree, Void none) {
        breach(6, tree, "assert");
        return super.visitAssert(tree, none);
    }

    @Override
    public Void visitLambdaExpression(LambdaExpressionTree tree, Void none) {
        breach(2, tree, "a lambda");
        return null;
    }

    @Override
    public Void visitMemberReference(MemberReferenceTree tree, Void none) {
        breach(2, tree, "a method reference");
        return null;
    }

    private void loop(Tree tree, ExpressionTree condition) {
        if (condition == null || condition.toString().matches("\\(*true\\)*")) {
            breach(9, tree, "a loop without an end");
        }
    }

    @Override
    public Void visitForLoop(ForLoopTree tree, Void none) {
        loop(tree, tree.getCondition());
        return super.visitForLoop(tree, none);
    }

    @Override
    public Void visitWhileLoop(WhileLoopTree tree, Void none) {
        loop(tree, tree.getCondition());
        return super.visitWhileLoop(tree, none);
    }

    @Override
    public Void visitDoWhileLoop(DoWhileLoopTree tree, Void none) {
        loop(tree, tree.getCondition());
        return super.visitDoWhileLoop(tree, none);
    }

    @Override
    public Void visitSwitch(SwitchTree tree, Void none) {
        if (isA(((ParenthesizedTree) tree.getExpression()).getExpression(), "java.lang.String")) {
            breach(10, tree, "a switch on a text");
        }
        return super.visitSwitch(tree, none);
    }

    @Override
    public Void visitBinary(BinaryTree tree, Void none) {
        Tree left = tree.getLeftOperand();
        Tree right = tree.getRightOperand();
        boolean isOfTexts = isA(left, "java.lang.String") || isA(right, "java.lang.String");
        boolean isOfObjects = isA(left, "java.lang.Integer") && isA(right, "java.lang.Integer")
                || isA(left, "java.lang.String") && isA(right, "java.lang.String");
        boolean isOfParts = Set.of("double", "float").stream().anyMatch(name -> isA(left, name) || isA(right, name));
        if (tree.getKind() == Tree.Kind.PLUS && isOfTexts) {
            breach(10, tree, "a text joined by +");
        }
        if ((tree.getKind() == Tree.Kind.EQUAL_TO || tree.getKind() == Tree.Kind.NOT_EQUAL_TO) && isOfObjects) {
            breach(6, tree, "== between two texts or two Integers");
        }
        if (tree.getKind() == Tree.Kind.REMAINDER && isOfParts) {
            breach(3, tree, "% of doubles or floats");
        }
        return super.visitBinary(tree, none);
    }

    @Override
    public Void visitCompoundAssignment(CompoundAssignmentTree tree, Void none) {
        changes(tree.getVariable());
        if (isA(tree.getVariable(), "java.lang.String")) {
            breach(10, tree, "a text joined by +=");
        }
        return super.visitCompoundAssignment(tree, none);
    }

    @Override
    public Void visitUnary(UnaryTree tree, Void none) {
        if (tree.getKind().name().endsWith("CREMENT")) {
            changes(tree.getExpression());
        }
        return super.visitUnary(tree, none);
    }

    @Override
    public Void visitTypeCast(TypeCastTree tree, Void none) {
        TypeMirror to = type(tree.getType());
        if (!to.getKind().isPrimitive() && !library.isOwnType(to) && to.getKind() != TypeKind.TYPEVAR) {
            breach(6, tree, "a cast to " + to);
        }
        return super.visitTypeCast(tree, none);
    }

    @Override
    public Void visitLiteral(LiteralTree tree, Void none) {
        if (tree.getValue() instanceof String
                && !((String) tree.getValue()).chars().allMatch(sign -> sign >= 1 && sign <= 127)) {
            breach(4, tree, "a text with a sign that is not 1 to 127");
        }
        return null;
    }

    @Override
    public Void visitIdentifier(IdentifierTree tree, Void none) {
        field(tree);
        return super.visitIdentifier(tree, none);
    }

    @Override
    public Void visitMemberSelect(MemberSelectTree tree, Void none) {
        field(tree);
        return super.visitMemberSelect(tree, none);
    }

    private void field(Tree tree) {
        Element element = element();
        boolean isField = element != null && element.getKind() == ElementKind.FIELD;
        String name = isField ? element.getSimpleName().toString() : "";
        boolean isOfLanguage = name.equals("length") || name.equals("class") || name.equals("this") || name.equals("super");
        if (isField && !isOfLanguage && !library.isOwn(element)) {
            breach(4, tree, "the field " + element.getEnclosingElement() + "." + name);
        }
    }
}
