import com.sun.source.tree.AssertTree;
import com.sun.source.tree.AnnotationTree;
import com.sun.source.tree.BinaryTree;
import com.sun.source.tree.BlockTree;
import com.sun.source.tree.ClassTree;
import com.sun.source.tree.CompilationUnitTree;
import com.sun.source.tree.CompoundAssignmentTree;
import com.sun.source.tree.DoWhileLoopTree;
import com.sun.source.tree.ExpressionTree;
import com.sun.source.tree.ForLoopTree;
import com.sun.source.tree.ImportTree;
import com.sun.source.tree.LambdaExpressionTree;
import com.sun.source.tree.LiteralTree;
import com.sun.source.tree.MemberReferenceTree;
import com.sun.source.tree.MethodInvocationTree;
import com.sun.source.tree.MethodTree;
import com.sun.source.tree.NewClassTree;
import com.sun.source.tree.ParenthesizedTree;
import com.sun.source.tree.SynchronizedTree;
import com.sun.source.tree.ThrowTree;
import com.sun.source.tree.Tree;
import com.sun.source.tree.TryTree;
import com.sun.source.tree.VariableTree;
import com.sun.source.tree.WhileLoopTree;
import com.sun.source.util.JavacTask;
import com.sun.source.util.SourcePositions;
import com.sun.source.util.TreePath;
import com.sun.source.util.TreePathScanner;
import com.sun.source.util.Trees;
import java.io.IOException;
import java.net.URI;
import java.util.ArrayList;
import java.util.LinkedHashMap;
import java.util.LinkedHashSet;
import java.util.List;
import java.util.Map;
import java.util.Set;
import java.util.regex.Pattern;
import javax.lang.model.element.Element;
import javax.lang.model.element.ElementKind;
import javax.lang.model.element.ExecutableElement;
import javax.lang.model.element.Modifier;
import javax.lang.model.element.TypeElement;
import javax.lang.model.element.VariableElement;
import javax.lang.model.type.TypeKind;
import javax.lang.model.type.TypeMirror;
import javax.tools.JavaCompiler;
import javax.tools.JavaFileObject;
import javax.tools.SimpleJavaFileObject;
import javax.tools.ToolProvider;

/**
 * Finds where a program leaves the rules of LANGUAGE.md, as far as they can be seen in its tree.
 * Whether each index, divisor and reference is looked at before it is used (rule 7) cannot.
 */
final class Language extends TreePathScanner<Void, Void> {
    private static final int MOST_PARAMETERS = 7;
    private static final int MOST_LINES = 60;
    private static final int MOST_CLASSES = 12;
    private static final int MOST_FIELDS = 20;
    private static final int MOST_DEPTH = 8;

    private static final Pattern IMPORTS = Pattern.compile("java\\.util\\.(ArrayList|Arrays|Iterator|List|NoSuchElementException)");
    private static final Pattern EXCEPTIONS = Pattern.compile("(IllegalState|IllegalArgument|IndexOutOfBounds|Arithmetic"
            + "|UnsupportedOperation|NoSuchElement|Runtime)Exception");
    private static final Pattern MADE = Pattern.compile("ArrayList|StringBuilder|String|Object|Enum|Record|" + EXCEPTIONS.pattern());
    private static final Pattern CALLS = Pattern.compile("String\\.(length|charAt|isEmpty|equals|indexOf|substring|toCharArray)"
            + "|StringBuilder\\.(append|charAt|setCharAt|setLength|deleteCharAt|reverse|length|toString)"
            + "|(ArrayList|List)\\.(add|get|set|remove|size|isEmpty|clear|of)"
            + "|(Integer|Long|Math)\\.(?!.*Exact$).*|System\\.arraycopy|Arrays\\.(copyOf|copyOfRange|fill)|Object\\.clone|Array\\.clone"
            + "|Iterator\\..*|Iterable\\..*|Comparable\\.compareTo|.*\\.(values|ordinal|name)");

    private final List<String> findings = new ArrayList<>();
    private final Map<ExecutableElement, Set<ExecutableElement>> calls = new LinkedHashMap<>();
    private final JavacTask task;
    private final Trees trees;
    private CompilationUnitTree unit;
    private int classes;

    private Language(JavacTask task) {
        this.task = task;
        this.trees = Trees.instance(task);
    }

    /** The places at which a program, one file of this text, leaves the rules: each one with the rule's number. */
    static List<String> findings(String name, String text) throws IOException {
        JavaCompiler compiler = ToolProvider.getSystemJavaCompiler();
        JavaFileObject file = new SimpleJavaFileObject(URI.create("string:///" + name + ".java"), JavaFileObject.Kind.SOURCE) {
            @Override
            public CharSequence getCharContent(boolean isIgnoring) {
                return text;
            }
        };
        JavacTask task = (JavacTask) compiler.getTask(null, null, null, List.of("-proc:none"), null, List.of(file));
        Language language = new Language(task);
        language.unit = task.parse().iterator().next();
        task.analyze();
        language.scan(language.unit, null);
        language.depths();
        return language.findings;
    }

    private void found(int rule, String what, Tree tree) {
        long start = trees.getSourcePositions().getStartPosition(unit, tree);
        findings.add("rule " + rule + ", line " + unit.getLineMap().getLineNumber(start) + ": " + what);
    }

    private Element element() {
        return trees.getElement(getCurrentPath());
    }

    private TypeMirror typeOf(Tree tree) {
        TypeMirror type = trees.getTypeMirror(new TreePath(getCurrentPath(), tree));
        return type == null ? task.getTypes().getNoType(TypeKind.NONE) : type;
    }

    private boolean isOfType(Tree tree, String type) {
        return typeOf(tree).toString().equals(type);
    }

    private MethodTree methodAround() {
        for (TreePath path = getCurrentPath(); path != null; path = path.getParentPath()) {
            if (path.getLeaf() instanceof MethodTree method) {
                return method;
            }
        }
        return null;
    }

    // ---- rules 1, 2, 5, 11: what is written

    @Override
    public Void visitCompilationUnit(CompilationUnitTree tree, Void none) {
        if (tree.getPackageName() != null) {
            found(1, "a package line", tree);
        }
        if (tree.getTypeDecls().size() != 1) {
            found(1, "more than one class beside one another", tree);
        }
        super.visitCompilationUnit(tree, none);
        if (classes > MOST_CLASSES) {
            found(11, classes + " classes", tree);
        }
        return null;
    }

    @Override
    public Void visitImport(ImportTree tree, Void none) {
        if (tree.isStatic() || !IMPORTS.matcher(tree.getQualifiedIdentifier().toString()).matches()) {
            found(4, "imports " + tree.getQualifiedIdentifier(), tree);
        }
        return null;
    }

    @Override
    public Void visitClass(ClassTree tree, Void none) {
        classes++;
        Tree around = getCurrentPath().getParentPath().getLeaf();
        boolean isInside = around instanceof ClassTree;
        if (isInside && tree.getModifiers().getFlags().contains(Modifier.PUBLIC)) {
            found(1, "a class inside that is public", tree);
        }
        int fields = 0;
        for (Tree member : tree.getMembers()) {
            if (member instanceof BlockTree block && block.isStatic()) {
                found(5, "a static initialiser block", member);
            }
            if (member instanceof VariableTree field && !field.getModifiers().getFlags().contains(Modifier.STATIC)) {
                fields++;
            }
        }
        if (fields > MOST_FIELDS) {
            found(11, fields + " fields", tree);
        }
        return super.visitClass(tree, none);
    }

    @Override
    public Void visitVariable(VariableTree tree, Void none) {
        Set<Modifier> flags = tree.getModifiers().getFlags();
        Element element = element();
        if (element != null && element.getKind() == ElementKind.FIELD && flags.contains(Modifier.STATIC)) {
            if (!flags.contains(Modifier.FINAL)) {
                found(5, "a static field that is not final", tree);
            }
            boolean isEnumRow = tree.getInitializer() instanceof MethodInvocationTree call && call.toString().endsWith("values()");
            if (!isEnumRow && !element.asType().toString().matches("int|long|boolean|char|java\\.lang\\.String|(int|long|char|byte)\\[\\]")) {
                found(5, "a static field of the type " + element.asType(), tree);
            }
        }
        if (tree.getModifiers().getFlags().contains(Modifier.VOLATILE)) {
            found(6, "a volatile field", tree);
        }
        return super.visitVariable(tree, none);
    }

    @Override
    public Void visitMethod(MethodTree tree, Void none) {
        if (tree.getParameters().size() > MOST_PARAMETERS) {
            found(11, tree.getParameters().size() + " parameters", tree);
        }
        SourcePositions places = trees.getSourcePositions();
        if (places.getEndPosition(unit, tree) >= 0) {
            long first = unit.getLineMap().getLineNumber(places.getStartPosition(unit, tree));
            long last = unit.getLineMap().getLineNumber(places.getEndPosition(unit, tree));
            if (last - first + 1 > MOST_LINES) {
                found(11, "a method of " + (last - first + 1) + " lines", tree);
            }
        }
        calls.computeIfAbsent((ExecutableElement) element(), method -> new LinkedHashSet<>());
        return super.visitMethod(tree, none);
    }

    @Override
    public Void visitLambdaExpression(LambdaExpressionTree tree, Void none) {
        found(2, "a lambda", tree);
        return super.visitLambdaExpression(tree, none);
    }

    @Override
    public Void visitMemberReference(MemberReferenceTree tree, Void none) {
        found(2, "a method reference", tree);
        return super.visitMemberReference(tree, none);
    }

    @Override
    public Void visitAnnotation(AnnotationTree tree, Void none) {
        if (!tree.getAnnotationType().toString().equals("Override")) {
            found(4, "an annotation", tree);
        }
        return super.visitAnnotation(tree, none);
    }

    // ---- rules 3, 4, 10: what is reckoned and called

    @Override
    public Void visitBinary(BinaryTree tree, Void none) {
        List<ExpressionTree> sides = List.of(tree.getLeftOperand(), tree.getRightOperand());
        for (ExpressionTree side : sides) {
            if (tree.getKind() == Tree.Kind.PLUS && isOfType(side, "java.lang.String")) {
                found(10, "texts joined by +", tree);
            }
        }
        boolean isComparing = tree.getKind() == Tree.Kind.EQUAL_TO || tree.getKind() == Tree.Kind.NOT_EQUAL_TO;
        for (String type : List.of("java.lang.String", "java.lang.Integer")) {
            if (isComparing && isOfType(sides.get(0), type) && isOfType(sides.get(1), type)) {
                found(6, "two of " + type + " compared by their places", tree);
            }
        }
        return super.visitBinary(tree, none);
    }

    @Override
    public Void visitCompoundAssignment(CompoundAssignmentTree tree, Void none) {
        if (isOfType(tree.getVariable(), "java.lang.String")) {
            found(10, "texts joined by +=", tree);
        }
        return super.visitCompoundAssignment(tree, none);
    }

    @Override
    public Void visitMethodInvocation(MethodInvocationTree tree, Void none) {
        if (element() instanceof ExecutableElement called) {
            called(called, tree);
        }
        return super.visitMethodInvocation(tree, none);
    }

    @Override
    public Void visitNewClass(NewClassTree tree, Void none) {
        if (element() instanceof ExecutableElement called) {
            called(called, tree);
        }
        return super.visitNewClass(tree, none);
    }

    private void called(ExecutableElement called, Tree tree) {
        TypeElement owner = (TypeElement) called.getEnclosingElement();
        if (trees.getTree(owner) != null) {
            MethodTree from = methodAround();
            if (from != null) {
                ExecutableElement caller = (ExecutableElement) trees.getElement(trees.getPath(unit, from));
                calls.computeIfAbsent(caller, method -> new LinkedHashSet<>()).add(called);
            }
            return;
        }
        String name = owner.getSimpleName().toString();
        if (called.getKind() == ElementKind.CONSTRUCTOR) {
            if (!MADE.matcher(name).matches()) {
                found(4, "makes " + name, tree);
            }
            return;
        }
        if (!CALLS.matcher(name + "." + called.getSimpleName()).matches()) {
            found(4, "calls " + name + "." + called.getSimpleName(), tree);
        }
        for (VariableElement parameter : called.getParameters()) {
            TypeKind kind = parameter.asType().getKind();
            if (name.equals("Math") && (kind == TypeKind.DOUBLE || kind == TypeKind.FLOAT)) {
                found(3, "Math on doubles", tree);
            }
        }
    }

    // ---- rule 6: what is thrown

    @Override
    public Void visitThrow(ThrowTree tree, Void none) {
        MethodTree around = methodAround();
        if (around != null && around.getReturnType() == null) {
            found(6, "a throw in a constructor", tree);
        }
        boolean isWritten = tree.getExpression() instanceof NewClassTree made && made.getClassBody() == null
                && EXCEPTIONS.matcher(made.getIdentifier().toString()).matches()
                && made.getArguments().size() <= 1
                && made.getArguments().stream().allMatch(text -> text.getKind() == Tree.Kind.STRING_LITERAL);
        if (!isWritten) {
            found(6, "throws " + tree.getExpression(), tree);
        }
        return super.visitThrow(tree, none);
    }

    @Override
    public Void visitTry(TryTree tree, Void none) {
        if (tree.getFinallyBlock() != null || !tree.getResources().isEmpty()) {
            found(6, "a try with finally or resources", tree);
        }
        MethodTree around = methodAround();
        if (around != null && Pattern.compile("\\bthrow\\b").matcher(around.getBody().toString()).find()) {
            found(6, "a try in a method that throws", tree);
        }
        return super.visitTry(tree, none);
    }

    @Override
    public Void visitSynchronized(SynchronizedTree tree, Void none) {
        found(6, "synchronized", tree);
        return super.visitSynchronized(tree, none);
    }

    @Override
    public Void visitAssert(AssertTree tree, Void none) {
        found(6, "an assert", tree);
        return super.visitAssert(tree, none);
    }

    // ---- rule 9: loops that do not tell their end

    @Override
    public Void visitWhileLoop(WhileLoopTree tree, Void none) {
        needEnd(tree.getCondition(), tree);
        return super.visitWhileLoop(tree, none);
    }

    @Override
    public Void visitDoWhileLoop(DoWhileLoopTree tree, Void none) {
        needEnd(tree.getCondition(), tree);
        return super.visitDoWhileLoop(tree, none);
    }

    @Override
    public Void visitForLoop(ForLoopTree tree, Void none) {
        needEnd(tree.getCondition(), tree);
        return super.visitForLoop(tree, none);
    }

    private void needEnd(ExpressionTree condition, Tree loop) {
        ExpressionTree bare = condition instanceof ParenthesizedTree brackets ? brackets.getExpression() : condition;
        if (bare == null || bare instanceof LiteralTree) {
            found(9, "a loop without an end", loop);
        }
    }

    // ---- rule 11: how deep calls go

    private void depths() {
        for (ExecutableElement start : calls.keySet()) {
            List<String> longest = longestFrom(start, new LinkedHashSet<>());
            if (longest.size() > MOST_DEPTH) {
                findings.add("rule 11: calls go " + longest.size() + " deep: " + longest);
            }
        }
    }

    /** A method that is open already is recursion, which does not count here. */
    private List<String> longestFrom(ExecutableElement method, Set<ExecutableElement> open) {
        List<String> longest = new ArrayList<>();
        if (!open.add(method)) {
            return longest;
        }
        for (ExecutableElement called : calls.getOrDefault(method, Set.of())) {
            for (ExecutableElement meant : overridersOf(called)) {
                List<String> way = longestFrom(meant, open);
                longest = way.size() > longest.size() ? way : longest;
            }
        }
        open.remove(method);
        longest = new ArrayList<>(longest);
        longest.add(0, method.getEnclosingElement().getSimpleName() + "." + method.getSimpleName());
        return longest;
    }

    private List<ExecutableElement> overridersOf(ExecutableElement called) {
        List<ExecutableElement> meant = new ArrayList<>(List.of(called));
        for (ExecutableElement other : calls.keySet()) {
            if (task.getElements().overrides(other, called, (TypeElement) other.getEnclosingElement())) {
                meant.add(other);
            }
        }
        return meant;
    }
}
