import com.sun.source.tree.AssertTree;
import com.sun.source.tree.BinaryTree;
import com.sun.source.tree.ClassTree;
import com.sun.source.tree.CompilationUnitTree;
import com.sun.source.tree.DoWhileLoopTree;
import com.sun.source.tree.EnhancedForLoopTree;
import com.sun.source.tree.ForLoopTree;
import com.sun.source.tree.IdentifierTree;
import com.sun.source.tree.LambdaExpressionTree;
import com.sun.source.tree.MemberReferenceTree;
import com.sun.source.tree.MemberSelectTree;
import com.sun.source.tree.MethodTree;
import com.sun.source.tree.NewClassTree;
import com.sun.source.tree.SynchronizedTree;
import com.sun.source.tree.ThrowTree;
import com.sun.source.tree.Tree;
import com.sun.source.tree.TryTree;
import com.sun.source.tree.VariableTree;
import com.sun.source.tree.WhileLoopTree;
import com.sun.source.util.JavacTask;
import com.sun.source.util.TreePath;
import com.sun.source.util.TreePathScanner;
import com.sun.source.util.Trees;
import java.io.File;
import java.util.HashMap;
import java.util.HashSet;
import java.util.List;
import java.util.Map;
import java.util.Set;
import java.util.TreeMap;
import java.util.TreeSet;
import javax.lang.model.element.Element;
import javax.lang.model.element.ElementKind;
import javax.lang.model.element.Modifier;
import javax.lang.model.element.TypeElement;
import javax.lang.model.type.TypeKind;
import javax.tools.JavaCompiler;
import javax.tools.StandardJavaFileManager;
import javax.tools.ToolProvider;

/**
 * The rules of LANGUAGE.md that can be read off the program's text. It is narrower than they are: what
 * the program has no need of (exceptions, loops by while, recursion through several methods) is refused
 * here, so whoever comes to need it looks at the rules first.
 */
public final class LanguageTest {
    private static final String PROGRAM = "src/main/java/VersionedRows.java";
    /** Of rule 4 what the program uses, by the class and the member. */
    private static final Set<String> LIBRARY = Set.of(
            "java.lang.Object.<init>", "java.lang.Math.max", "java.lang.Math.min", "java.util.ArrayList.<init>",
            "java.util.ArrayList.add", "java.util.ArrayList.get", "java.util.ArrayList.remove",
            "java.util.ArrayList.size");
    private static final Set<String> LIBRARY_TYPES = Set.of("java.lang.Math", "java.util.ArrayList");

    private static final int PARAMETERS = 7;
    private static final int LINES = 60;
    private static final int CALLS_DEEP = 8;
    private static final int CLASSES = 12;
    private static final int FIELDS = 20;

    private final Due due = new Due();
    private final Map<Element, Set<Element>> calls = new HashMap<>();
    private final Map<String, Integer> fields = new TreeMap<>();
    private final Set<String> publicNames = new TreeSet<>();
    private final Set<String> otherNames = new TreeSet<>();
    private int classes;

    public static void main(String[] args) throws Exception {
        LanguageTest test = new LanguageTest();
        test.readProgram();
        test.checkCounts();
        test.checkCalls();
        test.due.end("LanguageTest");
    }

    private void readProgram() throws Exception {
        JavaCompiler compiler = ToolProvider.getSystemJavaCompiler();
        try (StandardJavaFileManager manager = compiler.getStandardFileManager(null, null, null)) {
            JavacTask task = (JavacTask) compiler.getTask(null, manager, null, List.of("-proc:none"), null,
                    manager.getJavaFileObjects(new File(PROGRAM)));
            CompilationUnitTree unit = task.parse().iterator().next();
            task.analyze();
            no("rule 1: a package", unit.getPackageName() != null);
            is("rule 1: one class in the file", 1, unit.getTypeDecls().size());
            new Reader(Trees.instance(task), unit).scan(unit, null);
        }
    }

    private void is(String what, long wanted, long got) {
        due.is(what, wanted, got);
    }

    private void no(String what, boolean got) {
        due.is(what, false, got);
    }

    private void checkCounts() {
        no("rule 11: " + classes + " classes, more than " + CLASSES, classes > CLASSES);
        fields.forEach((of, many) -> no("rule 11: " + many + " fields in " + of, many > FIELDS));
        otherNames.retainAll(publicNames);
        is("rule 1: private methods with a public name " + otherNames, 0, otherNames.size());
    }

    private void checkCalls() {
        for (Element method : calls.keySet()) {
            if (calls.get(method).contains(method)) {
                due.is("rule 8: " + method + " calls itself and is private and static", true,
                        method.getModifiers().containsAll(Set.of(Modifier.PRIVATE, Modifier.STATIC)));
            }
            int deep = depthFrom(method, new HashSet<>());
            no("rule 11: calls go " + deep + " deep from " + method, deep > CALLS_DEEP);
        }
    }

    /** How deep the calls from a method go, it being the first; one that comes back to an open method is recursion. */
    private int depthFrom(Element method, Set<Element> open) {
        open.add(method);
        int deepest = 0;
        for (Element called : calls.getOrDefault(method, Set.of())) {
            no("rule 8: " + called + " is called again through " + method, open.contains(called) && called != method);
            if (!open.contains(called)) {
                deepest = Math.max(deepest, depthFrom(called, open));
            }
        }
        open.remove(method);
        return deepest + 1;
    }

    private final class Reader extends TreePathScanner<Void, Void> {
        private final Trees trees;
        private final CompilationUnitTree unit;

        Reader(Trees trees, CompilationUnitTree unit) {
            this.trees = trees;
            this.unit = unit;
        }

        private Element here() {
            return trees.getElement(getCurrentPath());
        }

        private long line(long position) {
            return unit.getLineMap().getLineNumber(position);
        }

        private String at(Tree tree) {
            return " in line " + line(trees.getSourcePositions().getStartPosition(unit, tree));
        }

        private long linesOf(Tree tree) {
            return line(trees.getSourcePositions().getEndPosition(unit, tree))
                    - line(trees.getSourcePositions().getStartPosition(unit, tree)) + 1;
        }

        private Element methodAround() {
            for (TreePath p = getCurrentPath(); p != null; p = p.getParentPath()) {
                if (p.getLeaf() instanceof MethodTree) {
                    return trees.getElement(p);
                }
            }
            return null;
        }

        private void no(String what, Tree tree) {
            LanguageTest.this.no(what + at(tree), true);
        }

        @Override
        public Void visitClass(ClassTree tree, Void v) {
            classes++;
            boolean isInside = getCurrentPath().getParentPath().getLeaf() instanceof ClassTree;
            due.is("rule 2: " + tree.getSimpleName() + " is inside and private and static, or the face",
                    isInside, tree.getModifiers().getFlags().containsAll(Set.of(Modifier.PRIVATE, Modifier.STATIC)));
            for (Tree member : tree.getMembers()) {
                LanguageTest.this.no("rule 5: a block of its own" + at(member), member.getKind() == Tree.Kind.BLOCK);
            }
            return super.visitClass(tree, v);
        }

        @Override
        public Void visitMethod(MethodTree tree, Void v) {
            Element method = here();
            boolean isOfFace = method.getEnclosingElement().getSimpleName().contentEquals("VersionedRows");
            calls.computeIfAbsent(method, m -> new HashSet<>());
            if (!isMaker(method)) {
                (method.getModifiers().contains(Modifier.PUBLIC) ? publicNames : otherNames)
                        .add(method.getSimpleName().toString());
            }
            due.is("rule 1: " + method + " is private, or a public one of the face", true,
                    method.getModifiers().contains(Modifier.PRIVATE)
                            || isOfFace && method.getModifiers().contains(Modifier.PUBLIC));
            LanguageTest.this.no("rule 11: parameters of " + method, tree.getParameters().size() > PARAMETERS);
            LanguageTest.this.no("rule 11: " + linesOf(tree) + " lines of " + method, linesOf(tree) > LINES);
            return super.visitMethod(tree, v);
        }

        @Override
        public Void visitVariable(VariableTree tree, Void v) {
            Element variable = here();
            Set<Modifier> flags = tree.getModifiers().getFlags();
            if (variable.getKind() == ElementKind.FIELD) {
                if (flags.contains(Modifier.STATIC)) {
                    due.is("rule 5: " + variable + " is final, an int", true, flags.contains(Modifier.FINAL)
                            && variable.asType().getKind() == TypeKind.INT);
                } else {
                    fields.merge(variable.getEnclosingElement().toString(), 1, Integer::sum);
                    due.is("rule 1: " + variable + " is private", true, flags.contains(Modifier.PRIVATE));
                }
            }
            return super.visitVariable(tree, v);
        }

        @Override
        public Void visitIdentifier(IdentifierTree tree, Void v) {
            use(here(), tree);
            return super.visitIdentifier(tree, v);
        }

        @Override
        public Void visitMemberSelect(MemberSelectTree tree, Void v) {
            use(here(), tree);
            return super.visitMemberSelect(tree, v);
        }

        @Override
        public Void visitNewClass(NewClassTree tree, Void v) {
            LanguageTest.this.no("rule 2: a class without a name" + at(tree), tree.getClassBody() != null);
            use(here(), tree);
            return super.visitNewClass(tree, v);
        }

        private void use(Element used, Tree tree) {
            if (used instanceof TypeElement type) {
                useOwnOr(LIBRARY_TYPES, type, type.getQualifiedName().toString(), tree);
            } else if (used != null && used.getEnclosingElement() instanceof TypeElement type) {
                // The length of an array has no class around it, so it does not come here.
                useOwnOr(LIBRARY, type, type.getQualifiedName() + "." + used.getSimpleName(), tree);
                Element user = methodAround();
                if (user != null && (used.getKind() == ElementKind.METHOD || isMaker(used)) && isOwn(type)) {
                    calls.computeIfAbsent(user, m -> new HashSet<>()).add(used);
                }
            }
        }

        private void useOwnOr(Set<String> allowed, TypeElement type, String name, Tree tree) {
            LanguageTest.this.no("rule 4: " + name + at(tree), !isOwn(type) && !allowed.contains(name));
        }

        private boolean isMaker(Element method) {
            return method.getKind() == ElementKind.CONSTRUCTOR;
        }

        private boolean isOwn(TypeElement type) {
            return (type.getQualifiedName() + ".").startsWith("VersionedRows.");
        }

        @Override
        public Void visitForLoop(ForLoopTree tree, Void v) {
            LanguageTest.this.no("rule 9: a loop without a bound" + at(tree), tree.getCondition() == null);
            LanguageTest.this.no("rule 9: a loop without a step" + at(tree), tree.getUpdate().isEmpty());
            return super.visitForLoop(tree, v);
        }

        @Override
        public Void visitWhileLoop(WhileLoopTree tree, Void v) {
            no("rule 9: while", tree);
            return super.visitWhileLoop(tree, v);
        }

        @Override
        public Void visitDoWhileLoop(DoWhileLoopTree tree, Void v) {
            no("rule 9: do", tree);
            return super.visitDoWhileLoop(tree, v);
        }

        @Override
        public Void visitEnhancedForLoop(EnhancedForLoopTree tree, Void v) {
            no("rule 12: a loop that may make an iterator", tree);
            return super.visitEnhancedForLoop(tree, v);
        }

        @Override
        public Void visitBinary(BinaryTree tree, Void v) {
            boolean isDivision = tree.getKind() == Tree.Kind.DIVIDE || tree.getKind() == Tree.Kind.REMAINDER;
            LanguageTest.this.no("rule 7: a divisor that is no constant" + at(tree),
                    isDivision && !isConstant(tree.getRightOperand()));
            LanguageTest.this.no("rule 10: texts joined by +" + at(tree),
                    trees.getTypeMirror(getCurrentPath()).toString().equals("java.lang.String"));
            return super.visitBinary(tree, v);
        }

        private boolean isConstant(Tree tree) {
            return tree.getKind() == Tree.Kind.INT_LITERAL || tree instanceof IdentifierTree name
                    && name.getName().toString().equals(name.getName().toString().toUpperCase());
        }

        @Override
        public Void visitLambdaExpression(LambdaExpressionTree tree, Void v) {
            no("rule 2: a lambda", tree);
            return super.visitLambdaExpression(tree, v);
        }

        @Override
        public Void visitMemberReference(MemberReferenceTree tree, Void v) {
            no("rule 2: a method reference", tree);
            return super.visitMemberReference(tree, v);
        }

        @Override
        public Void visitThrow(ThrowTree tree, Void v) {
            no("rule 6: throw", tree);
            return super.visitThrow(tree, v);
        }

        @Override
        public Void visitTry(TryTree tree, Void v) {
            no("rule 6: try", tree);
            return super.visitTry(tree, v);
        }

        @Override
        public Void visitSynchronized(SynchronizedTree tree, Void v) {
            no("rule 6: synchronized", tree);
            return super.visitSynchronized(tree, v);
        }

        @Override
        public Void visitAssert(AssertTree tree, Void v) {
            no("rule 6: assert", tree);
            return super.visitAssert(tree, v);
        }
    }
}
