import com.sun.source.tree.ArrayTypeTree;
import com.sun.source.tree.BinaryTree;
import com.sun.source.tree.ClassTree;
import com.sun.source.tree.CompilationUnitTree;
import com.sun.source.tree.ExpressionTree;
import com.sun.source.tree.ForLoopTree;
import com.sun.source.tree.LiteralTree;
import com.sun.source.tree.MethodInvocationTree;
import com.sun.source.tree.MethodTree;
import com.sun.source.tree.NewArrayTree;
import com.sun.source.tree.NewClassTree;
import com.sun.source.tree.ThrowTree;
import com.sun.source.tree.Tree;
import com.sun.source.tree.TypeCastTree;
import com.sun.source.tree.VariableTree;
import com.sun.source.util.JavacTask;
import com.sun.source.util.SourcePositions;
import com.sun.source.util.TreePath;
import com.sun.source.util.TreePathScanner;
import com.sun.source.util.Trees;
import java.io.IOException;
import java.net.URI;
import java.util.ArrayList;
import java.util.EnumSet;
import java.util.LinkedHashMap;
import java.util.LinkedHashSet;
import java.util.List;
import java.util.Map;
import java.util.Set;
import java.util.TreeSet;
import javax.lang.model.element.Element;
import javax.lang.model.element.ElementKind;
import javax.lang.model.element.ExecutableElement;
import javax.lang.model.element.Modifier;
import javax.lang.model.type.TypeMirror;
import javax.tools.SimpleJavaFileObject;
import javax.tools.ToolProvider;

/**
 * Goes through the class as javac understands it and tells where it leaves the rules of LANGUAGE.md.
 * It knows what the class uses today and no more: what the rules allow beyond that (while, try, lists,
 * records) is told too, as "new" or by the rule of its type or method, so that whoever brings it in
 * looks at the rule and adds it here.
 */
final class Rules extends TreePathScanner<Void, Void> {
    private static final Set<Tree.Kind> KINDS = EnumSet.of(Tree.Kind.COMPILATION_UNIT, Tree.Kind.CLASS,
            Tree.Kind.METHOD, Tree.Kind.VARIABLE, Tree.Kind.MODIFIERS, Tree.Kind.PRIMITIVE_TYPE, Tree.Kind.ARRAY_TYPE,
            Tree.Kind.IDENTIFIER, Tree.Kind.MEMBER_SELECT, Tree.Kind.BLOCK, Tree.Kind.IF, Tree.Kind.FOR_LOOP,
            Tree.Kind.SWITCH, Tree.Kind.CASE, Tree.Kind.RETURN, Tree.Kind.THROW, Tree.Kind.EXPRESSION_STATEMENT,
            Tree.Kind.ASSIGNMENT, Tree.Kind.PLUS_ASSIGNMENT, Tree.Kind.DIVIDE_ASSIGNMENT, Tree.Kind.POSTFIX_INCREMENT,
            Tree.Kind.UNARY_MINUS, Tree.Kind.LOGICAL_COMPLEMENT, Tree.Kind.PLUS, Tree.Kind.MINUS, Tree.Kind.MULTIPLY,
            Tree.Kind.DIVIDE, Tree.Kind.REMAINDER, Tree.Kind.AND, Tree.Kind.OR, Tree.Kind.LEFT_SHIFT,
            Tree.Kind.RIGHT_SHIFT, Tree.Kind.CONDITIONAL_AND, Tree.Kind.CONDITIONAL_OR, Tree.Kind.EQUAL_TO,
            Tree.Kind.NOT_EQUAL_TO, Tree.Kind.LESS_THAN, Tree.Kind.LESS_THAN_EQUAL, Tree.Kind.GREATER_THAN,
            Tree.Kind.GREATER_THAN_EQUAL, Tree.Kind.CONDITIONAL_EXPRESSION, Tree.Kind.PARENTHESIZED,
            Tree.Kind.TYPE_CAST, Tree.Kind.NEW_CLASS, Tree.Kind.NEW_ARRAY, Tree.Kind.ARRAY_ACCESS,
            Tree.Kind.METHOD_INVOCATION, Tree.Kind.INT_LITERAL, Tree.Kind.CHAR_LITERAL, Tree.Kind.STRING_LITERAL,
            Tree.Kind.BOOLEAN_LITERAL);
    private static final Set<String> TYPES =
            Set.of("int", "long", "boolean", "char", "void", "String", "StringBuilder");
    private static final Set<String> CONSTANTS = Set.of("int", "long", "boolean", "char", "String");
    private static final Set<String> LIBRARY = Set.of("String.length()", "String.charAt(int)",
            "StringBuilder.append(char)", "StringBuilder.append(java.lang.String)", "StringBuilder.append(int)",
            "StringBuilder.toString()");
    private static final Set<String> EXCEPTIONS = Set.of("IllegalStateException", "IllegalArgumentException",
            "IndexOutOfBoundsException", "ArithmeticException", "UnsupportedOperationException",
            "NoSuchElementException", "RuntimeException");
    private static final int DEEPEST = 8;

    private final Trees trees;
    private final Set<String> found = new LinkedHashSet<>();
    private final Set<String> faceNames = new TreeSet<>();
    private final Map<Element, Set<Element>> calls = new LinkedHashMap<>();
    private int classes;

    private Rules(Trees trees) {
        this.trees = trees;
    }

    /** A text "rule N: .." or "new: .." for each breach; none for a class that keeps to the rules. */
    static Set<String> broken(String source) throws IOException {
        JavacTask task = (JavacTask) ToolProvider.getSystemJavaCompiler().getTask(null, null, told -> { },
                List.of("-proc:none", "--release", "17"), null, List.of(new InMemory(source)));
        List<CompilationUnitTree> units = new ArrayList<>();
        task.parse().forEach(units::add);
        task.analyze();
        Rules rules = new Rules(Trees.instance(task));
        for (CompilationUnitTree unit : units) {
            rules.file(unit);
        }
        rules.depths();
        return rules.found;
    }

    private static final class InMemory extends SimpleJavaFileObject {
        private final String source;

        InMemory(String source) {
            super(URI.create("memory:///Shortnumbers.java"), Kind.SOURCE);
            this.source = source;
        }

        @Override
        public CharSequence getCharContent(boolean ignoreErrors) {
            return source;
        }
    }

    private void breach(int rule, String what) {
        found.add("rule " + rule + ": " + what);
    }

    private void unless(boolean isKept, int rule, String what) {
        if (!isKept) {
            breach(rule, what);
        }
    }

    private void file(CompilationUnitTree unit) {
        unless(unit.getPackageName() == null && unit.getImports().isEmpty(), 1, "a package or an import");
        unless(unit.getTypeDecls().size() == 1, 1, "not just one class");
        ClassTree face = (ClassTree) unit.getTypeDecls().get(0);
        unless(face.getModifiers().getFlags().equals(Set.of(Modifier.PUBLIC, Modifier.FINAL)), 1, "not public final");
        for (Tree member : face.getMembers()) {
            Element element = trees.getElement(new TreePath(new TreePath(new TreePath(unit), face), member));
            if (element != null && element.getModifiers().contains(Modifier.PUBLIC)) {
                faceNames.add(element.getSimpleName().toString());
            } else if (element != null && element.getKind() != ElementKind.CLASS) {
                unless(element.getModifiers().contains(Modifier.PRIVATE), 1, element + " is open");
            }
        }
        scan(unit, null);
        unless(classes <= 12, 11, classes + " classes");
    }

    @Override
    public Void scan(Tree tree, Void nothing) {
        if (tree != null) {
            if (!KINDS.contains(tree.getKind())) {
                found.add("new: " + tree.getKind() + " in " + tree);
            }
        }
        return super.scan(tree, nothing);
    }

    @Override
    public Void visitClass(ClassTree tree, Void nothing) {
        classes++;
        Set<Modifier> modifiers = tree.getModifiers().getFlags();
        boolean isFace = getCurrentPath().getParentPath().getLeaf() instanceof CompilationUnitTree;
        boolean isHidden = !modifiers.contains(Modifier.PUBLIC) && !modifiers.contains(Modifier.PROTECTED);
        unless(isFace || (isHidden && modifiers.contains(Modifier.STATIC)), 1, tree.getSimpleName() + " within");
        long fields = tree.getMembers().stream().filter(one -> one instanceof VariableTree
                && !((VariableTree) one).getModifiers().getFlags().contains(Modifier.STATIC)).count();
        unless(fields <= 20, 11, fields + " fields");
        for (Tree member : tree.getMembers()) {
            unless(member.getKind() != Tree.Kind.BLOCK, 5, "an initialiser block");
        }
        return super.visitClass(tree, nothing);
    }

    @Override
    public Void visitVariable(VariableTree tree, Void nothing) {
        Element element = trees.getElement(getCurrentPath());
        boolean isStatic = element.getModifiers().contains(Modifier.STATIC);
        boolean isConstant = element.getModifiers().contains(Modifier.FINAL)
                && CONSTANTS.contains(plain(element.asType()));
        unless(!isStatic || isConstant, 5, "the static " + tree.getName());
        type(tree.getType());
        return super.visitVariable(tree, nothing);
    }

    private static String plain(TypeMirror type) {
        return type.toString().replaceAll("^.*\\.", "");
    }

    private void type(Tree tree) {
        Tree base = tree instanceof ArrayTypeTree ? ((ArrayTypeTree) tree).getType() : tree;
        Element element = trees.getElement(new TreePath(getCurrentPath(), base));
        boolean isOwn = element != null && isOwn(element);
        unless(base == null || isOwn || TYPES.contains(base.toString()), 3, "the type " + tree);
    }

    /** Whether it stands in the file itself. */
    private boolean isOwn(Element element) {
        return trees.getTree(element) != null;
    }

    @Override
    public Void visitMethod(MethodTree tree, Void nothing) {
        Element element = trees.getElement(getCurrentPath());
        String name = tree.getName().toString();
        calls.put(element, new LinkedHashSet<>());
        unless(tree.getParameters().size() <= 7, 11, name + " has many parameters");
        unless(lines(tree) <= 60, 11, name + " is long");
        boolean isPublic = element.getModifiers().contains(Modifier.PUBLIC);
        unless(isPublic || name.equals("<init>") || !faceNames.contains(name), 1, name + " is a name of the face");
        unless(!Set.of("equals", "hashCode", "toString").contains(name), 6, name + " of an own object");
        Set<Modifier> odd = EnumSet.of(Modifier.SYNCHRONIZED, Modifier.NATIVE, Modifier.STRICTFP);
        unless(element.getModifiers().stream().noneMatch(odd::contains), 6, name + " is synchronized or native");
        if (tree.getReturnType() != null) {
            type(tree.getReturnType());
        }
        return super.visitMethod(tree, nothing);
    }

    private long lines(MethodTree tree) {
        SourcePositions places = trees.getSourcePositions();
        CompilationUnitTree unit = getCurrentPath().getCompilationUnit();
        long first = unit.getLineMap().getLineNumber(Math.max(0, places.getStartPosition(unit, tree)));
        return unit.getLineMap().getLineNumber(Math.max(0, places.getEndPosition(unit, tree))) - first + 1;
    }

    private Element around() {
        TreePath path = getCurrentPath();
        while (path != null && !(path.getLeaf() instanceof MethodTree)) {
            path = path.getParentPath();
        }
        return path == null ? null : trees.getElement(path);
    }

    private void called(Element element) {
        Element from = around();
        if (from != null) {
            calls.get(from).add(element);
        }
    }

    @Override
    public Void visitMethodInvocation(MethodInvocationTree tree, Void nothing) {
        Element element = trees.getElement(getCurrentPath());
        if (element == null || element.getSimpleName().contentEquals("<init>")) {
            return super.visitMethodInvocation(tree, nothing);
        }
        if (isOwn(element)) {
            called(element);
        } else {
            String name = element.getEnclosingElement().getSimpleName() + "." + (ExecutableElement) element;
            unless(LIBRARY.contains(name), 4, name);
        }
        return super.visitMethodInvocation(tree, nothing);
    }

    @Override
    public Void visitNewClass(NewClassTree tree, Void nothing) {
        Element element = trees.getElement(getCurrentPath());
        Tree parent = getCurrentPath().getParentPath().getLeaf();
        if (element != null && isOwn(element.getEnclosingElement())) {
            called(element);
        } else if (!(parent instanceof ThrowTree)) {
            unless(tree.toString().equals("new StringBuilder()"), 4, tree.toString());
        }
        made(tree);
        return super.visitNewClass(tree, nothing);
    }

    /** Only a constructor may make things in a loop: its loops are short, and it runs once an object. */
    private void made(Tree tree) {
        Element from = around();
        boolean isMaker = from != null && from.getKind() == ElementKind.CONSTRUCTOR;
        for (TreePath path = getCurrentPath(); path != null; path = path.getParentPath()) {
            boolean isThrown = path.getLeaf() instanceof ThrowTree;
            unless(!(path.getLeaf() instanceof ForLoopTree) || isMaker, 12, tree + " in a loop");
            if (isThrown || path.getLeaf() instanceof MethodTree) {
                return;
            }
        }
    }

    @Override
    public Void visitNewArray(NewArrayTree tree, Void nothing) {
        made(tree);
        return super.visitNewArray(tree, nothing);
    }

    @Override
    public Void visitThrow(ThrowTree tree, Void nothing) {
        ExpressionTree thrown = tree.getExpression();
        boolean isPlain = thrown instanceof NewClassTree
                && EXCEPTIONS.contains(((NewClassTree) thrown).getIdentifier().toString())
                && ((NewClassTree) thrown).getArguments().stream()
                        .allMatch(one -> one.getKind() == Tree.Kind.STRING_LITERAL);
        unless(isPlain, 6, tree.toString());
        unless(around().getKind() == ElementKind.METHOD, 6, "a throw in a constructor");
        return super.visitThrow(tree, nothing);
    }

    @Override
    public Void visitForLoop(ForLoopTree tree, Void nothing) {
        unless(tree.getCondition() != null && tree.getUpdate().size() == 1, 9, "a loop without a bound: " + tree);
        return super.visitForLoop(tree, nothing);
    }

    @Override
    public Void visitBinary(BinaryTree tree, Void nothing) {
        boolean isOfTexts = isText(tree.getLeftOperand()) || isText(tree.getRightOperand());
        unless(!isOfTexts || tree.getKind() != Tree.Kind.PLUS, 10, "texts joined by +: " + tree);
        unless(!isOfTexts || tree.getKind() == Tree.Kind.PLUS, 6, "texts compared: " + tree);
        return super.visitBinary(tree, nothing);
    }

    private boolean isText(Tree tree) {
        TypeMirror type = trees.getTypeMirror(new TreePath(getCurrentPath(), tree));
        return type != null && type.toString().equals("java.lang.String");
    }

    @Override
    public Void visitTypeCast(TypeCastTree tree, Void nothing) {
        unless(tree.getType().getKind() == Tree.Kind.PRIMITIVE_TYPE, 7, "a cast that may fail: " + tree);
        return super.visitTypeCast(tree, nothing);
    }

    @Override
    public Void visitLiteral(LiteralTree tree, Void nothing) {
        if (tree.getValue() instanceof String) {
            unless(((String) tree.getValue()).chars().allMatch(one -> one >= 1 && one <= 127), 4, "signs of " + tree);
        } else if (tree.getValue() instanceof Character) {
            unless((Character) tree.getValue() <= 255, 3, "the sign " + tree);
        }
        return super.visitLiteral(tree, nothing);
    }

    private void depths() {
        for (Element one : calls.keySet()) {
            depth(one, new ArrayList<>());
        }
    }

    private void depth(Element one, List<Element> above) {
        if (above.contains(one)) {
            breach(8, one + " calls itself, at last");
            return;
        }
        above.add(one);
        unless(above.size() <= DEEPEST, 11, "calls " + above.size() + " deep: " + above);
        for (Element next : calls.getOrDefault(one, Set.of())) {
            depth(next, above);
        }
        above.remove(above.size() - 1);
    }
}
