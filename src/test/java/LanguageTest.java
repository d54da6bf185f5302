import com.sun.source.tree.AssertTree;
import com.sun.source.tree.BinaryTree;
import com.sun.source.tree.ClassTree;
import com.sun.source.tree.CompilationUnitTree;
import com.sun.source.tree.ExpressionTree;
import com.sun.source.tree.LambdaExpressionTree;
import com.sun.source.tree.LiteralTree;
import com.sun.source.tree.MemberReferenceTree;
import com.sun.source.tree.MethodInvocationTree;
import com.sun.source.tree.MethodTree;
import com.sun.source.tree.NewArrayTree;
import com.sun.source.tree.NewClassTree;
import com.sun.source.tree.SynchronizedTree;
import com.sun.source.tree.ThrowTree;
import com.sun.source.tree.Tree;
import com.sun.source.tree.TryTree;
import com.sun.source.tree.TypeCastTree;
import com.sun.source.tree.VariableTree;
import com.sun.source.util.JavacTask;
import com.sun.source.util.TreePath;
import com.sun.source.util.TreePathScanner;
import com.sun.source.util.Trees;
import java.io.IOException;
import java.nio.charset.StandardCharsets;
import java.nio.file.Files;
import java.nio.file.Path;
import java.util.ArrayDeque;
import java.util.Deque;
import java.util.LinkedHashMap;
import java.util.LinkedHashSet;
import java.util.List;
import java.util.Map;
import java.util.Set;
import java.util.regex.Matcher;
import java.util.regex.Pattern;
import javax.lang.model.element.Element;
import javax.lang.model.element.ElementKind;
import javax.lang.model.element.ExecutableElement;
import javax.lang.model.element.Modifier;
import javax.lang.model.element.TypeElement;
import javax.lang.model.type.ArrayType;
import javax.lang.model.type.DeclaredType;
import javax.lang.model.type.TypeKind;
import javax.lang.model.type.TypeMirror;
import javax.tools.JavaCompiler;
import javax.tools.StandardJavaFileManager;
import javax.tools.ToolProvider;

/** The rules of ../shared/LANGUAGE.md, as far as they can be seen in the program's text and syntax tree. */
final class LanguageTest extends TreePathScanner<Void, Void> {
    private static final Set<String> LIBRARY = Set.of("java.util.Arrays.fill", "java.lang.System.arraycopy",
            "java.lang.Math.max", "java.lang.Long.bitCount", "java.lang.Object.<init>");
    private static final Set<String> EXCEPTIONS = Set.of("IllegalStateException", "IllegalArgumentException",
            "IndexOutOfBoundsException", "ArithmeticException", "UnsupportedOperationException",
            "NoSuchElementException", "RuntimeException");
    private static final Set<String> IMPORTS = Set.of("java.util.Arrays", "java.util.NoSuchElementException");
    private static final String DUE_ORDER = "Versefold, facts: tell untell setUnique, "
            + "rules: addRule addCondition turn isOn layer, "
            + "answers: knowing holds holdsAnew count spanFrom spanTo since, reasons: rank reason reasonFact proof, "
            + "forgetting and seals: forget isForgotten seal, branches: fork merge conflicts, "
            + "listeners: listen waiting next, figures: hours derivedShare meanRank isSound, what the calls share:";

    private final Trees trees;
    private final CompilationUnitTree unit;
    private final Map<Element, Set<Element>> calls = new LinkedHashMap<>();
    private int classes = 0;

    private LanguageTest(Trees trees, CompilationUnitTree unit) {
        this.trees = trees;
        this.unit = unit;
    }

    static void run(Path program) {
        try {
            String text = Files.readString(program, StandardCharsets.ISO_8859_1);
            Check.due("plain signs only", true, text.chars().allMatch(c -> c == '\n' || c >= 32 && c < 127));
            Check.due("the headings and calls of the face", DUE_ORDER, order(text));
            JavaCompiler compiler = ToolProvider.getSystemJavaCompiler();
            try (StandardJavaFileManager files = compiler.getStandardFileManager(null, null, null)) {
                JavacTask task = (JavacTask) compiler.getTask(null, files, null, List.of("-proc:none"), null,
                        files.getJavaFileObjects(program));
                CompilationUnitTree unit = task.parse().iterator().next();
                task.analyze();
                new LanguageTest(Trees.instance(task), unit).look();
            }
        } catch (IOException e) {
            Check.due("the program can be read", "", e.toString());
        }
    }

    /** The headings and the public names in the order of the text. */
    private static String order(String text) {
        StringBuilder order = new StringBuilder();
        Pattern wanted = Pattern.compile("^    (// ---- ([\\w ]+)|public (?:\\w+ )?(\\w+)\\()", Pattern.MULTILINE);
        Matcher found = wanted.matcher(text);
        while (found.find()) {
            order.append(found.group(2) != null ? ", " + found.group(2) + ":" : " " + found.group(3));
        }
        return order.toString().trim();
    }

    private void look() {
        Check.due("no package line", true, unit.getPackageName() == null);
        Check.due("one class on the outside", 1, unit.getTypeDecls().size());
        unit.getImports().forEach(line -> {
            String name = line.getQualifiedIdentifier().toString();
            Check.due("import " + name, true, !line.isStatic() && IMPORTS.contains(name));
        });
        scan(unit, null);
        Check.due("some twelve classes: " + classes, true, classes <= 12);
        Check.due("the calls were seen", true, calls.size() > 60);
        for (Element method : calls.keySet()) {
            Check.due("at most eight deep from " + method, true, depth(method, new ArrayDeque<>()) <= 8);
        }
    }

    /** How many methods stand open at once, this one among them; recursion counts as too many. */
    private int depth(Element method, Deque<Element> open) {
        if (open.contains(method)) {
            return 1000;
        }
        open.push(method);
        int deepest = 0;
        for (Element called : calls.getOrDefault(method, Set.of())) {
            deepest = Math.max(deepest, depth(called, open));
        }
        open.pop();
        return deepest + 1;
    }

    @Override
    public Void visitClass(ClassTree tree, Void nothing) {
        classes++;
        TypeElement type = (TypeElement) trees.getElement(getCurrentPath());
        boolean isOuter = type.getEnclosingElement().getKind() == ElementKind.PACKAGE;
        Set<Modifier> modifiers = type.getModifiers();
        Check.due("modifiers of " + type, true, isOuter ? modifiers.equals(Set.of(Modifier.PUBLIC, Modifier.FINAL))
                : modifiers.contains(Modifier.STATIC) && !modifiers.contains(Modifier.PUBLIC)
                && !modifiers.contains(Modifier.PROTECTED));
        Check.due("what " + type + " extends", "java.lang.Object", type.getSuperclass().toString());
        Check.due("what " + type + " implements", 0, type.getInterfaces().size());
        long fields = type.getEnclosedElements().stream().filter(inside -> inside.getKind() == ElementKind.FIELD
                && !inside.getModifiers().contains(Modifier.STATIC)).count();
        Check.due("some twenty fields of " + type, true, fields <= 20);
        return super.visitClass(tree, nothing);
    }

    @Override
    public Void visitMethod(MethodTree tree, Void nothing) {
        Element method = trees.getElement(getCurrentPath());
        calls.putIfAbsent(method, new LinkedHashSet<>());
        Check.due("at most seven parameters of " + method, true, tree.getParameters().size() <= 7);
        if (tree.getBody() != null && trees.getSourcePositions().getStartPosition(unit, tree) >= 0) {
            Check.due("some sixty lines of " + method, true, lines(tree) <= 60);
        }
        return super.visitMethod(tree, nothing);
    }

    private long lines(Tree tree) {
        long start = unit.getLineMap().getLineNumber(trees.getSourcePositions().getStartPosition(unit, tree));
        return unit.getLineMap().getLineNumber(trees.getSourcePositions().getEndPosition(unit, tree)) - start + 1;
    }

    @Override
    public Void visitVariable(VariableTree tree, Void nothing) {
        Element variable = trees.getElement(getCurrentPath());
        Check.due("the type of " + tree, true, isAllowed(variable.asType(), false));
        if (variable.getModifiers().contains(Modifier.STATIC)) {
            Check.due("a constant: " + tree, true,
                    variable.getModifiers().contains(Modifier.FINAL) && variable.asType().getKind().isPrimitive());
        }
        return super.visitVariable(tree, nothing);
    }

    private static boolean isAllowed(TypeMirror type, boolean isPart) {
        if (type.getKind() == TypeKind.ARRAY) {
            TypeMirror part = ((ArrayType) type).getComponentType();
            boolean isRowOfNumbers = part.getKind() == TypeKind.ARRAY
                    && ((ArrayType) part).getComponentType().getKind().isPrimitive();
            return !isPart && (isRowOfNumbers || isAllowed(part, true));
        }
        return type.getKind().isPrimitive()
                || type.getKind() == TypeKind.DECLARED && isOwn(((DeclaredType) type).asElement());
    }

    private static boolean isOwn(Element element) {
        return element.toString().startsWith("Versefold") && !element.toString().contains("(");
    }

    @Override
    public Void visitMethodInvocation(MethodInvocationTree tree, Void nothing) {
        addCall(trees.getElement(getCurrentPath()));
        return super.visitMethodInvocation(tree, nothing);
    }

    private void addCall(Element called) {
        Element type = called.getEnclosingElement();
        if (!isOwn(type)) {
            String name = type + "." + called.getSimpleName();
            Check.due("a call of the library: " + name, true, LIBRARY.contains(name));
        } else if (enclosingMethod() != null) {
            calls.computeIfAbsent(enclosingMethod(), method -> new LinkedHashSet<>()).add(called);
        }
    }

    private Element enclosingMethod() {
        for (TreePath path = getCurrentPath(); path != null; path = path.getParentPath()) {
            if (path.getLeaf() instanceof MethodTree) {
                return trees.getElement(path);
            }
        }
        return null;
    }

    /** Rows and objects are made with the object itself; a call makes only what it throws. */
    private boolean isInMaking() {
        Element method = enclosingMethod();
        return method == null || method.getKind() == ElementKind.CONSTRUCTOR;
    }

    @Override
    public Void visitNewClass(NewClassTree tree, Void nothing) {
        ExecutableElement made = (ExecutableElement) trees.getElement(getCurrentPath());
        Check.due("no class without a name: " + tree, true, tree.getClassBody() == null);
        if (isOwn(made.getEnclosingElement())) {
            Check.due("made with the object: " + tree, true, isInMaking());
        } else {
            boolean isThrown = getCurrentPath().getParentPath().getLeaf() instanceof ThrowTree;
            Check.due("thrown at once: " + tree, true, isThrown);
        }
        return super.visitNewClass(tree, nothing);
    }

    @Override
    public Void visitNewArray(NewArrayTree tree, Void nothing) {
        Check.due("made with the object: " + tree, true, isInMaking());
        return super.visitNewArray(tree, nothing);
    }

    @Override
    public Void visitThrow(ThrowTree tree, Void nothing) {
        Check.due("no throw in the making: " + tree, false, isInMaking());
        ExpressionTree thrown = tree.getExpression();
        boolean isNew = thrown instanceof NewClassTree;
        Check.due("a new exception: " + tree, true, isNew
                && EXCEPTIONS.contains(((NewClassTree) thrown).getIdentifier().toString())
                && ((NewClassTree) thrown).getArguments().stream().allMatch(text -> text instanceof LiteralTree));
        return super.visitThrow(tree, nothing);
    }

    @Override
    public Void visitBinary(BinaryTree tree, Void nothing) {
        TypeMirror type = trees.getTypeMirror(getCurrentPath());
        Check.due("no texts joined by +: " + tree, true, type.getKind().isPrimitive());
        return super.visitBinary(tree, nothing);
    }

    @Override
    public Void visitTypeCast(TypeCastTree tree, Void nothing) {
        Check.due("no cast of an object: " + tree, true, trees.getTypeMirror(getCurrentPath()).getKind().isPrimitive());
        return super.visitTypeCast(tree, nothing);
    }

    @Override
    public Void visitTry(TryTree tree, Void nothing) {
        return notAllowed(tree);
    }

    @Override
    public Void visitLambdaExpression(LambdaExpressionTree tree, Void nothing) {
        return notAllowed(tree);
    }

    @Override
    public Void visitMemberReference(MemberReferenceTree tree, Void nothing) {
        return notAllowed(tree);
    }

    @Override
    public Void visitSynchronized(SynchronizedTree tree, Void nothing) {
        return notAllowed(tree);
    }

    @Override
    public Void visitAssert(AssertTree tree, Void nothing) {
        return notAllowed(tree);
    }

    private Void notAllowed(Tree tree) {
        Check.due("not in this program", "", tree.toString());
        return null;
    }
}
