import com.sun.source.tree.ArrayTypeTree;
import com.sun.source.tree.BinaryTree;
import com.sun.source.tree.ClassTree;
import com.sun.source.tree.CompilationUnitTree;
import com.sun.source.tree.DoWhileLoopTree;
import com.sun.source.tree.ExpressionTree;
import com.sun.source.tree.ForLoopTree;
import com.sun.source.tree.ImportTree;
import com.sun.source.tree.MethodInvocationTree;
import com.sun.source.tree.MethodTree;
import com.sun.source.tree.NewArrayTree;
import com.sun.source.tree.NewClassTree;
import com.sun.source.tree.Tree;
import com.sun.source.tree.VariableTree;
import com.sun.source.tree.WhileLoopTree;
import com.sun.source.util.JavacTask;
import com.sun.source.util.TreePathScanner;
import com.sun.source.util.Trees;
import java.io.IOException;
import java.nio.file.Files;
import java.nio.file.Path;
import java.util.EnumSet;
import java.util.List;
import java.util.Map;
import java.util.Set;
import java.util.TreeMap;
import java.util.TreeSet;
import javax.lang.model.element.Element;
import javax.lang.model.element.ElementKind;
import javax.lang.model.element.Modifier;
import javax.lang.model.type.ArrayType;
import javax.lang.model.type.TypeMirror;
import javax.tools.JavaCompiler;
import javax.tools.JavaFileObject;
import javax.tools.StandardJavaFileManager;
import javax.tools.ToolProvider;

/** The rules of LANGUAGE.md that the compiler's own reading of the source can tell, by their numbers. */
public final class LanguageTest {
    private static final Due DUE = new Due("LanguageTest");
    private static final Path SOURCE = Path.of("src/main/java/KineticCup.java");
    private static final int DEEPEST = 8;
    private static final Set<String> LIBRARY = Set.of(
            "java.lang.Math.abs(int)", "java.lang.Math.abs(long)", "java.lang.Math.max(int,int)",
            "java.lang.Math.min(int,int)", "java.lang.String.charAt(int)",
            "java.lang.System.arraycopy(java.lang.Object,int,java.lang.Object,int,int)",
            "java.util.Arrays.fill(int[],int)", "java.lang.Object.Object()");
    private static final Set<Tree.Kind> BANNED = EnumSet.of(Tree.Kind.THROW, Tree.Kind.TRY,
            Tree.Kind.CATCH, Tree.Kind.SYNCHRONIZED, Tree.Kind.ASSERT, Tree.Kind.LAMBDA_EXPRESSION,
            Tree.Kind.MEMBER_REFERENCE, Tree.Kind.FLOAT_LITERAL, Tree.Kind.DOUBLE_LITERAL,
            Tree.Kind.ANNOTATION, Tree.Kind.SWITCH_EXPRESSION);

    public static void main(String[] args) throws IOException {
        signs(Files.readString(SOURCE));
        JavaCompiler compiler = ToolProvider.getSystemJavaCompiler();
        try (StandardJavaFileManager files = compiler.getStandardFileManager(null, null, null)) {
            Iterable<? extends JavaFileObject> sources = files.getJavaFileObjects(SOURCE);
            JavacTask task = (JavacTask) compiler.getTask(null, files, null, List.of("-proc:none"), null, sources);
            CompilationUnitTree unit = task.parse().iterator().next();
            task.analyze();
            DUE.isTrue("no package line", unit.getPackageName() == null);
            Reader reader = new Reader(Trees.instance(task), unit);
            reader.scan(unit, null);
            calls(reader.calls);
        }
        DUE.end();
    }

    private static void signs(String text) {
        for (int i = 0; i < text.length(); i++) {
            if (text.charAt(i) > 126) {
                DUE.isTrue("4: a sign past 126 at " + i, false);
            }
        }
    }

    /** Whether some calls lead back, and how many stand open at once at the most. */
    private static void calls(Map<String, Set<String>> calls) {
        Map<String, Integer> depths = new TreeMap<>();
        int deepest = 0;
        for (String from : calls.keySet()) {
            deepest = Math.max(deepest, depth(from, calls, depths, new TreeSet<>()));
        }
        System.out.println("LanguageTest: calls go " + deepest + " deep");
        DUE.isTrue("11: calls go " + deepest + " deep", deepest > 1 && deepest <= DEEPEST);
    }

    private static int depth(String from, Map<String, Set<String>> calls, Map<String, Integer> depths,
            Set<String> open) {
        if (depths.containsKey(from)) {
            return depths.get(from);
        }
        boolean leadsBack = !open.add(from);
        DUE.isTrue("8: no recursion by " + from, !leadsBack);
        int below = 0;
        if (!leadsBack) {
            for (String to : calls.getOrDefault(from, Set.of())) {
                below = Math.max(below, depth(to, calls, depths, open));
            }
            open.remove(from);
        }
        depths.put(from, below + 1);
        return below + 1;
    }

    /** Looks at each piece of the source, and notes who calls whom. */
    private static final class Reader extends TreePathScanner<Void, Void> {
        private final Map<String, Set<String>> calls = new TreeMap<>();
        private final Trees trees;
        private final CompilationUnitTree unit;
        private String method = "";
        private boolean constructs = true;

        Reader(Trees trees, CompilationUnitTree unit) {
            this.trees = trees;
            this.unit = unit;
        }

        private String at(Tree tree) {
            long start = trees.getSourcePositions().getStartPosition(unit, tree);
            return " (line " + unit.getLineMap().getLineNumber(Math.max(start, 0)) + ")";
        }

        private static boolean isOwn(Element element) {
            Element outer = element;
            while (outer.getEnclosingElement().getKind() != ElementKind.PACKAGE) {
                outer = outer.getEnclosingElement();
            }
            return outer.getSimpleName().contentEquals("KineticCup");
        }

        private void noteCall(Element called, Tree tree) {
            String name = called.getEnclosingElement() + "." + called;
            if (called.getKind() == ElementKind.CONSTRUCTOR) {
                name = called.getEnclosingElement() + "." + called.getEnclosingElement().getSimpleName() + "()";
            }
            if (isOwn(called)) {
                calls.computeIfAbsent(method, k -> new TreeSet<>()).add(name);
            } else {
                DUE.isTrue("4: the library's " + name + at(tree), LIBRARY.contains(name));
            }
        }

        @Override
        public Void scan(Tree tree, Void unused) {
            if (tree != null) {
                DUE.isTrue("6: no " + tree.getKind() + at(tree), !BANNED.contains(tree.getKind()));
            }
            return super.scan(tree, unused);
        }

        @Override
        public Void visitImport(ImportTree tree, Void unused) {
            DUE.isTrue("4: import" + at(tree), tree.getQualifiedIdentifier().toString().equals("java.util.Arrays"));
            return super.visitImport(tree, unused);
        }

        @Override
        public Void visitClass(ClassTree tree, Void unused) {
            Element element = trees.getElement(getCurrentPath());
            boolean outer = element.getEnclosingElement().getKind() == ElementKind.PACKAGE;
            DUE.isTrue("2: named and static" + at(tree), outer
                    || !tree.getSimpleName().isEmpty() && element.getModifiers().contains(Modifier.STATIC));
            String before = method;
            // What fields begin with is made by the constructor.
            method = element + "." + element.getSimpleName() + "()";
            super.visitClass(tree, unused);
            method = before;
            return null;
        }

        @Override
        public Void visitMethod(MethodTree tree, Void unused) {
            Element element = trees.getElement(getCurrentPath());
            String before = method;
            constructs = element.getKind() == ElementKind.CONSTRUCTOR;
            if (!constructs) {
                method = element.getEnclosingElement() + "." + element;
            }
            calls.computeIfAbsent(method, k -> new TreeSet<>());
            DUE.isTrue("11: seven parameters at most, " + method, tree.getParameters().size() <= 7);
            long start = trees.getSourcePositions().getStartPosition(unit, tree);
            long end = trees.getSourcePositions().getEndPosition(unit, tree);
            long lines = end < start ? 0
                    : unit.getLineMap().getLineNumber(end) - unit.getLineMap().getLineNumber(start) + 1;
            DUE.isTrue("11: sixty lines at most, " + method, lines <= 60);
            DUE.isTrue("6: not of an object's own, " + method, !Set.of("equals", "hashCode", "toString")
                    .contains(tree.getName().toString()));
            super.visitMethod(tree, unused);
            method = before;
            constructs = true;
            return null;
        }

        @Override
        public Void visitMethodInvocation(MethodInvocationTree tree, Void unused) {
            noteCall(trees.getElement(getCurrentPath()), tree);
            return super.visitMethodInvocation(tree, unused);
        }

        @Override
        public Void visitNewClass(NewClassTree tree, Void unused) {
            DUE.isTrue("2: no class without a name" + at(tree), tree.getClassBody() == null);
            DUE.isTrue("12: objects are made by constructors alone" + at(tree), constructs);
            noteCall(trees.getElement(getCurrentPath()), tree);
            return super.visitNewClass(tree, unused);
        }

        @Override
        public Void visitNewArray(NewArrayTree tree, Void unused) {
            DUE.isTrue("12: rows are made by constructors alone" + at(tree), constructs);
            return super.visitNewArray(tree, unused);
        }

        @Override
        public Void visitVariable(VariableTree tree, Void unused) {
            Element element = trees.getElement(getCurrentPath());
            TypeMirror type = element.asType();
            String plain = type instanceof ArrayType row ? row.getComponentType().toString() : type.toString();
            boolean number = Set.of("int", "long", "boolean").contains(plain);
            DUE.isTrue("3: the type of " + element + at(tree), number || plain.startsWith("KineticCup.")
                    || plain.equals("java.lang.String"));
            Set<Modifier> modifiers = element.getModifiers();
            if (modifiers.contains(Modifier.STATIC)) {
                DUE.isTrue("5: a constant, " + element + at(tree), modifiers.contains(Modifier.FINAL)
                        && !(type instanceof ArrayType) && (number || plain.equals("java.lang.String")));
            }
            if (element.getKind() == ElementKind.FIELD) {
                boolean face = modifiers.contains(Modifier.PUBLIC) && modifiers.contains(Modifier.STATIC);
                DUE.isTrue("1: private, " + element + at(tree), face || modifiers.contains(Modifier.PRIVATE));
            }
            return super.visitVariable(tree, unused);
        }

        @Override
        public Void visitArrayType(ArrayTypeTree tree, Void unused) {
            DUE.isTrue("3: of one dimension" + at(tree), tree.getType().getKind() != Tree.Kind.ARRAY_TYPE);
            return super.visitArrayType(tree, unused);
        }

        @Override
        public Void visitBinary(BinaryTree tree, Void unused) {
            TypeMirror type = trees.getTypeMirror(getCurrentPath());
            DUE.isTrue("10: no texts are joined by +" + at(tree), !type.toString().equals("java.lang.String"));
            return super.visitBinary(tree, unused);
        }

        private void hasAnEnd(ExpressionTree condition, Tree loop) {
            DUE.isTrue("9: the loop has an end" + at(loop),
                    condition != null && condition.toString().matches("(?s).*(<|>).*"));
        }

        @Override
        public Void visitForLoop(ForLoopTree tree, Void unused) {
            hasAnEnd(tree.getCondition(), tree);
            return super.visitForLoop(tree, unused);
        }

        @Override
        public Void visitWhileLoop(WhileLoopTree tree, Void unused) {
            hasAnEnd(tree.getCondition(), tree);
            return super.visitWhileLoop(tree, unused);
        }

        @Override
        public Void visitDoWhileLoop(DoWhileLoopTree tree, Void unused) {
            hasAnEnd(tree.getCondition(), tree);
            return super.visitDoWhileLoop(tree, unused);
        }
    }
}
