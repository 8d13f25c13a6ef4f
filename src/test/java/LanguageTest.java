import com.sun.source.tree.AnnotationTree;
import com.sun.source.tree.AssertTree;
import com.sun.source.tree.BinaryTree;
import com.sun.source.tree.BlockTree;
import com.sun.source.tree.ClassTree;
import com.sun.source.tree.CompilationUnitTree;
import com.sun.source.tree.CompoundAssignmentTree;
import com.sun.source.tree.DoWhileLoopTree;
import com.sun.source.tree.ExpressionTree;
import com.sun.source.tree.ForLoopTree;
import com.sun.source.tree.ImportTree;
import com.sun.source.tree.LambdaExpressionTree;
import com.sun.source.tree.LiteralTree;
import com.sun.source.tree.MemberReferenceTree;
import com.sun.source.tree.MethodInvocationTree;
import com.sun.source.tree.MethodTree;
import com.sun.source.tree.NewClassTree;
import com.sun.source.tree.SynchronizedTree;
import com.sun.source.tree.ThrowTree;
import com.sun.source.tree.Tree;
import com.sun.source.tree.TryTree;
import com.sun.source.tree.TypeCastTree;
import com.sun.source.tree.VariableTree;
import com.sun.source.tree.WhileLoopTree;
import com.sun.source.util.JavacTask;
import com.sun.source.util.TreePathScanner;
import com.sun.source.util.Trees;
import java.io.File;
import java.io.IOException;
import java.util.ArrayList;
import java.util.HashSet;
import java.util.LinkedHashMap;
import java.util.LinkedHashSet;
import java.util.List;
import java.util.Map;
import java.util.Set;
import javax.lang.model.element.Element;
import javax.lang.model.element.ElementKind;
import javax.lang.model.element.Modifier;
import javax.lang.model.element.TypeElement;
import javax.lang.model.type.ArrayType;
import javax.lang.model.type.TypeKind;
import javax.lang.model.type.TypeMirror;
import javax.tools.JavaCompiler;
import javax.tools.StandardJavaFileManager;
import javax.tools.ToolProvider;

/** The rules of LANGUAGE.md, as far as a look at the source can tell: each complaint begins with the rule's number. */
public final class LanguageTest extends TreePathScanner<Void, Void> {
    private static final File SOURCE = new File("src/main/java/NestSheet.java");
    private static final Set<String> FACE = Set.of("type", "enter", "clear", "formula", "undo", "redo", "needs",
        "stale", "worked", "ask", "steps", "down", "top", "told", "number", "print", "out");
    private static final Set<String> LIBRARY = Set.of("java.util.Arrays.copyOf", "java.util.Arrays.copyOfRange",
        "java.util.Arrays.fill", "java.lang.System.arraycopy");
    private static final Set<String> NUMBERS = Set.of("java.lang.Math", "java.lang.Integer", "java.lang.Long");
    private static final Set<TypeKind> PLAIN = Set.of(TypeKind.INT, TypeKind.LONG, TypeKind.SHORT, TypeKind.BYTE,
        TypeKind.CHAR, TypeKind.BOOLEAN, TypeKind.VOID);

    private final Trees trees;
    private final CompilationUnitTree unit;
    private final Map<Element, Set<Element>> calls = new LinkedHashMap<>();
    private Element within;
    private int classes;

    private LanguageTest(Trees trees, CompilationUnitTree unit) {
        this.trees = trees;
        this.unit = unit;
    }

    private void must(boolean holds, int rule, String what, Tree at) {
        if (!holds) {
            long from = trees.getSourcePositions().getStartPosition(unit, at);
            Due.is("against rule " + rule + " in line " + unit.getLineMap().getLineNumber(from), what, "nothing");
        }
    }

    private void never(int rule, String what, Tree at) {
        must(false, rule, what, at);
    }

    private Element element() {
        return trees.getElement(getCurrentPath());
    }

    private static boolean own(Element one) {
        Element outer = one;
        while (outer.getEnclosingElement() != null && outer.getEnclosingElement().getKind() != ElementKind.PACKAGE) {
            outer = outer.getEnclosingElement();
        }
        return outer.getSimpleName().contentEquals("NestSheet");
    }

    private long lines(Tree one) {
        long from = trees.getSourcePositions().getStartPosition(unit, one);
        long to = trees.getSourcePositions().getEndPosition(unit, one);
        return unit.getLineMap().getLineNumber(to) - unit.getLineMap().getLineNumber(from) + 1;
    }

    @Override
    public Void visitImport(ImportTree one, Void none) {
        must(one.getQualifiedIdentifier().toString().matches("java\\.util\\.(Arrays|ArrayList|List|Iterator)"), 4,
            one.toString(), one);
        return super.visitImport(one, none);
    }

    @Override
    public Void visitClass(ClassTree one, Void none) {
        TypeElement it = (TypeElement) element();
        classes++;
        Set<Modifier> marks = it.getModifiers();
        if (it.getEnclosingElement().getKind() == ElementKind.PACKAGE) {
            must(marks.contains(Modifier.PUBLIC) && marks.contains(Modifier.FINAL), 1, "not public and final", one);
        } else {
            must(marks.contains(Modifier.STATIC), 2, "a class that is not static", one);
            must(!marks.contains(Modifier.PUBLIC) && !marks.contains(Modifier.PROTECTED), 1, "a public class", one);
            must(it.getEnclosingElement().getKind().isClass(), 2, "a local class", one);
        }
        int fields = 0;
        for (Element member : it.getEnclosedElements()) {
            boolean constant = member.getModifiers().contains(Modifier.STATIC);
            fields += member.getKind() == ElementKind.FIELD && !constant ? 1 : 0;
            must(member.getKind() != ElementKind.STATIC_INIT, 5, "a static initialiser", one);
        }
        must(fields <= 20, 11, fields + " fields", one);
        return super.visitClass(one, none);
    }

    @Override
    public Void visitBlock(BlockTree one, Void none) {
        must(!one.isStatic(), 5, "a static initialiser", one);
        return super.visitBlock(one, none);
    }

    @Override
    public Void visitMethod(MethodTree one, Void none) {
        Element it = element();
        boolean face = it.getModifiers().contains(Modifier.PUBLIC);
        boolean outer = it.getEnclosingElement().getSimpleName().contentEquals("NestSheet");
        must(face == (outer && (it.getKind() == ElementKind.CONSTRUCTOR || FACE.contains(name(it)))), 1,
            "public or not: " + it, one);
        must(face || !outer || it.getModifiers().contains(Modifier.PRIVATE), 1, "not private: " + it, one);
        must(face || !FACE.contains(name(it)), 1, "bears a public name: " + it, one);
        must(one.getParameters().size() <= 7, 11, one.getParameters().size() + " parameters", one);
        must(lines(one) <= 60, 11, lines(one) + " lines", one);
        must(one.getThrows().isEmpty(), 6, "throws", one);
        within = it;
        calls.putIfAbsent(it, new LinkedHashSet<>());
        return super.visitMethod(one, none);
    }

    private static String name(Element one) {
        return one.getSimpleName().toString();
    }

    @Override
    public Void visitVariable(VariableTree one, Void none) {
        Element it = element();
        boolean field = it.getKind() == ElementKind.FIELD;
        Set<Modifier> marks = it.getModifiers();
        if (field && name(it.getEnclosingElement()).equals("NestSheet")) {
            must(marks.contains(Modifier.PRIVATE) || Set.of("BAD", "STATE", "FULL", "NONE").contains(name(it)), 1,
                "not private: " + it, one);
        }
        if (field && marks.contains(Modifier.STATIC)) {
            TypeMirror type = it.asType();
            boolean array = type instanceof ArrayType && !(one.getInitializer() instanceof MethodInvocationTree);
            must(marks.contains(Modifier.FINAL), 5, "static and not final: " + it, one);
            must(PLAIN.contains(type.getKind()) || type.toString().equals("java.lang.String") || array, 5,
                "static: " + it, one);
        }
        must(allowed(it.asType()), 3, it.asType() + " " + it, one);
        return super.visitVariable(one, none);
    }

    private static boolean allowed(TypeMirror type) {
        if (type instanceof ArrayType) {
            TypeMirror part = ((ArrayType) type).getComponentType();
            boolean two = part instanceof ArrayType;
            return allowed(part) && (!two || PLAIN.contains(((ArrayType) part).getComponentType().getKind()));
        }
        String text = type.toString();
        return PLAIN.contains(type.getKind()) || text.equals("java.lang.String") || text.startsWith("NestSheet");
    }

    @Override
    public Void visitMethodInvocation(MethodInvocationTree one, Void none) {
        Element it = element();
        if (own(it)) {
            call(it);
        } else if (it.getKind() != ElementKind.CONSTRUCTOR) {
            String holder = it.getEnclosingElement().toString();
            boolean number = NUMBERS.contains(holder) && it.getModifiers().contains(Modifier.STATIC)
                && !name(it).endsWith("Exact") && !it.toString().contains("double") && !it.toString().contains("float");
            boolean clone = name(it).equals("clone");
            must(number || clone || LIBRARY.contains(holder + "." + name(it)), 4, holder + "." + it, one);
        }
        return super.visitMethodInvocation(one, none);
    }

    @Override
    public Void visitNewClass(NewClassTree one, Void none) {
        Element it = element();
        must(own(it), 4, "new " + it, one);
        must(one.getClassBody() == null, 2, "an anonymous class", one);
        call(it);
        return super.visitNewClass(one, none);
    }

    private void call(Element it) {
        if (within != null) {
            calls.get(within).add(it);
        }
    }

    @Override
    public Void visitBinary(BinaryTree one, Void none) {
        must(!text(one), 10, "texts joined by +", one);
        return super.visitBinary(one, none);
    }

    @Override
    public Void visitCompoundAssignment(CompoundAssignmentTree one, Void none) {
        must(!text(one), 10, "texts joined by +=", one);
        return super.visitCompoundAssignment(one, none);
    }

    private boolean text(Tree one) {
        TypeMirror type = trees.getTypeMirror(getCurrentPath());
        return type != null && type.toString().equals("java.lang.String");
    }

    @Override
    public Void visitTypeCast(TypeCastTree one, Void none) {
        must(PLAIN.contains(trees.getTypeMirror(getCurrentPath()).getKind()), 6, "a cast to be looked at: " + one, one);
        return super.visitTypeCast(one, none);
    }

    @Override
    public Void visitLiteral(LiteralTree one, Void none) {
        Object it = one.getValue();
        must(!(it instanceof Double) && !(it instanceof Float), 3, "a double to be looked at: " + one, one);
        boolean text = it instanceof Character || it instanceof String;
        must(!text || it.toString().chars().allMatch(c -> c > 0 && c < 128), 4, "a sign that is not 1 to 127", one);
        return super.visitLiteral(one, none);
    }

    @Override
    public Void visitWhileLoop(WhileLoopTree one, Void none) {
        must(ends(one.getCondition()), 9, "a loop without an end", one);
        return super.visitWhileLoop(one, none);
    }

    @Override
    public Void visitDoWhileLoop(DoWhileLoopTree one, Void none) {
        must(ends(one.getCondition()), 9, "a loop without an end", one);
        return super.visitDoWhileLoop(one, none);
    }

    @Override
    public Void visitForLoop(ForLoopTree one, Void none) {
        must(one.getCondition() != null && ends(one.getCondition()), 9, "a loop without an end", one);
        return super.visitForLoop(one, none);
    }

    private static boolean ends(ExpressionTree condition) {
        return !condition.toString().replaceAll("[()]", "").equals("true");
    }

    @Override
    public Void visitThrow(ThrowTree one, Void none) {
        never(6, "throw", one);
        return super.visitThrow(one, none);
    }

    @Override
    public Void visitTry(TryTree one, Void none) {
        never(6, "try", one);
        return super.visitTry(one, none);
    }

    @Override
    public Void visitSynchronized(SynchronizedTree one, Void none) {
        never(6, "synchronized", one);
        return super.visitSynchronized(one, none);
    }

    @Override
    public Void visitAssert(AssertTree one, Void none) {
        never(6, "assert", one);
        return super.visitAssert(one, none);
    }

    @Override
    public Void visitLambdaExpression(LambdaExpressionTree one, Void none) {
        never(2, "a lambda", one);
        return super.visitLambdaExpression(one, none);
    }

    @Override
    public Void visitMemberReference(MemberReferenceTree one, Void none) {
        never(2, "a method reference", one);
        return super.visitMemberReference(one, none);
    }

    @Override
    public Void visitAnnotation(AnnotationTree one, Void none) {
        never(4, "an annotation: " + one, one);
        return super.visitAnnotation(one, none);
    }

    private boolean reaches(Element from, Element to, Set<Element> seen) {
        for (Element next : calls.getOrDefault(from, Set.of())) {
            if (next.equals(to) || (seen.add(next) && reaches(next, to, seen))) {
                return true;
            }
        }
        return false;
    }

    /** The longest chain of calls from this one on; one that calls itself again stands in it once. */
    private List<Element> chain(Element from, Set<Element> open) {
        List<Element> longest = List.of();
        open.add(from);
        for (Element next : calls.getOrDefault(from, Set.of())) {
            List<Element> below = open.contains(next) ? List.of() : chain(next, open);
            longest = below.size() > longest.size() ? below : longest;
        }
        open.remove(from);
        List<Element> all = new ArrayList<>(List.of(from));
        all.addAll(longest);
        return all;
    }

    private void chains() {
        for (Element one : calls.keySet()) {
            if (one.getModifiers().contains(Modifier.PUBLIC)) {
                List<Element> chain = chain(one, new HashSet<>());
                Due.is("rule 11: not more open calls than 8: " + chain, Math.max(8, chain.size()), 8);
            }
            boolean again = reaches(one, one, new HashSet<>());
            Due.is("rule 8: calls itself again: " + one,
                !again || one.getModifiers().contains(Modifier.PRIVATE) ? "private" : "not private", "private");
        }
    }

    public static void main(String[] args) throws IOException {
        JavaCompiler compiler = ToolProvider.getSystemJavaCompiler();
        try (StandardJavaFileManager files = compiler.getStandardFileManager(null, null, null)) {
            JavacTask task = (JavacTask) compiler.getTask(null, files, null, List.of("-proc:none"), null,
                files.getJavaFileObjects(args.length > 0 ? new File(args[0]) : SOURCE));
            CompilationUnitTree unit = task.parse().iterator().next();
            task.analyze();
            LanguageTest look = new LanguageTest(Trees.instance(task), unit);
            Due.is("rule 0: a package line", unit.getPackageName() == null ? 0 : 1, 0);
            Due.is("rule 0: classes beside the public one", unit.getTypeDecls().size(), 1);
            look.scan(unit, null);
            Due.is("rule 11: at most some twelve classes", look.classes <= 12 ? 1 : 0, 1);
            look.chains();
        }
        Due.end("LanguageTest");
    }
}
