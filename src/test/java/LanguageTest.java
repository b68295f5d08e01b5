import com.sun.source.tree.ClassTree;
import com.sun.source.tree.CompilationUnitTree;
import com.sun.source.tree.IdentifierTree;
import com.sun.source.tree.MemberSelectTree;
import com.sun.source.tree.MethodInvocationTree;
import com.sun.source.tree.MethodTree;
import com.sun.source.tree.NewArrayTree;
import com.sun.source.tree.NewClassTree;
import com.sun.source.tree.Tree;
import com.sun.source.tree.VariableTree;
import com.sun.source.util.JavacTask;
import com.sun.source.util.SourcePositions;
import com.sun.source.util.TreeScanner;
import com.sun.source.util.Trees;
import java.io.IOException;
import java.nio.file.Path;
import java.util.Map;
import java.util.Set;
import java.util.TreeMap;
import java.util.TreeSet;
import javax.lang.model.element.Modifier;
import javax.tools.JavaCompiler;
import javax.tools.StandardJavaFileManager;
import javax.tools.ToolProvider;

/** Those rules of ../shared/LANGUAGE.md that can be seen in the text of the class. */
final class LanguageTest {
    private static final Path PROGRAM = Path.of("src", "main", "java", "RegisterHouse.java");
    /** Refused by rules 2 and 6, or without use in the class, which needs no library but LIBRARY. */
    private static final Set<Tree.Kind> REFUSED = Set.of(Tree.Kind.IMPORT, Tree.Kind.PACKAGE, Tree.Kind.THROW,
        Tree.Kind.TRY, Tree.Kind.CATCH, Tree.Kind.SYNCHRONIZED, Tree.Kind.ASSERT, Tree.Kind.LAMBDA_EXPRESSION,
        Tree.Kind.MEMBER_REFERENCE, Tree.Kind.ANNOTATION, Tree.Kind.TYPE_CAST);
    /** All that the class takes from the library; rule 4 lists it. */
    private static final Set<String> LIBRARY =
        Set.of("Math.max", "Math.min", "Math.floorMod", "Integer.bitCount");
    private static final int MOST_DEEP = 8;

    private static final Due DUE = new Due("LanguageTest");

    public static void main(String[] args) throws IOException {
        JavaCompiler compiler = ToolProvider.getSystemJavaCompiler();
        try (StandardJavaFileManager files = compiler.getStandardFileManager(null, null, null)) {
            JavacTask task = (JavacTask) compiler.getTask(null, files, null, null, null,
                files.getJavaFileObjects(PROGRAM));
            for (CompilationUnitTree unit : task.parse()) {
                Reader reader = new Reader(unit, Trees.instance(task).getSourcePositions());
                reader.scan(unit, null);
                reader.close();
            }
        }
        DUE.end();
    }

    private static void holds(String what, boolean held) {
        DUE.is(what, held ? 1 : 0, 1);
    }

    /** Reads the file once; what can only be told behind its last line is told by close. */
    private static final class Reader extends TreeScanner<Void, Void> {
        private final CompilationUnitTree unit;
        private final SourcePositions positions;
        private final Set<String> classes = new TreeSet<>();
        private final Set<String> namedClasses = new TreeSet<>();
        private final Map<String, Set<String>> calls = new TreeMap<>();
        /** The method that is read now; empty outside of methods. */
        private String method = "";

        Reader(CompilationUnitTree unit, SourcePositions positions) {
            this.unit = unit;
            this.positions = positions;
        }

        void close() {
            holds("one class at the top", unit.getTypeDecls().size() == 1);
            holds(classes.size() + " classes, at most 12", classes.size() <= 12);
            for (String name : namedClasses) {
                holds(name + " is a class of the file, or Math or Integer",
                    classes.contains(name) || name.equals("Math") || name.equals("Integer"));
            }
            for (String name : calls.keySet()) {
                holds("calls from " + name + " go at most 8 deep", depth(name, MOST_DEEP) <= MOST_DEEP);
            }
        }

        /** By names alone: methods of one name count as one, so that it is never told less than it is. */
        private int depth(String name, int most) {
            int deepest = 0;
            // a method that calls itself, over others or not, ends here too
            if (most == 0) {
                return 1;
            }
            for (String called : calls.get(name)) {
                if (calls.containsKey(called)) {
                    deepest = Math.max(deepest, depth(called, most - 1));
                }
            }
            return deepest + 1;
        }

        @Override
        public Void scan(Tree tree, Void none) {
            if (tree != null && REFUSED.contains(tree.getKind())) {
                holds("no " + tree.getKind() + ", as in line " + line(positions.getStartPosition(unit, tree)), false);
            }
            return super.scan(tree, none);
        }

        @Override
        public Void visitClass(ClassTree tree, Void none) {
            String name = tree.getSimpleName().toString();
            classes.add(name);
            int fields = 0;
            for (Tree member : tree.getMembers()) {
                if (member instanceof VariableTree field) {
                    Set<Modifier> flags = field.getModifiers().getFlags();
                    boolean shared = flags.contains(Modifier.STATIC);
                    holds("static " + field.getName() + " is final", !shared || flags.contains(Modifier.FINAL));
                    fields += shared ? 0 : 1;
                }
            }
            holds(name + " has " + fields + " fields, at most 20", fields <= 20);
            return super.visitClass(tree, none);
        }

        @Override
        public Void visitMethod(MethodTree tree, Void none) {
            method = tree.getName().toString();
            calls.putIfAbsent(method, new TreeSet<>());
            long first = line(positions.getStartPosition(unit, tree));
            long last = line(positions.getEndPosition(unit, tree));
            holds(method + " has at most 60 lines", last - first < 60);
            holds(method + " takes at most 7 parameters", tree.getParameters().size() <= 7);
            super.visitMethod(tree, none);
            method = "";
            return null;
        }

        @Override
        public Void visitMethodInvocation(MethodInvocationTree tree, Void none) {
            String called = tree.getMethodSelect().toString();
            if (Character.isUpperCase(called.charAt(0))) {
                holds(called + " is of the library that is listed", LIBRARY.contains(called));
            } else if (!method.isEmpty()) {
                calls.get(method).add(called.substring(called.lastIndexOf('.') + 1));
            }
            return super.visitMethodInvocation(tree, none);
        }

        /** A name with a great letter and a small one behind it is that of a class. */
        @Override
        public Void visitIdentifier(IdentifierTree tree, Void none) {
            String name = tree.getName().toString();
            if (name.matches("[A-Z][a-z].*")) {
                namedClasses.add(name);
            }
            return super.visitIdentifier(tree, none);
        }

        @Override
        public Void visitMemberSelect(MemberSelectTree tree, Void none) {
            holds(tree + " is no name of a package", !tree.toString().startsWith("java"));
            return super.visitMemberSelect(tree, none);
        }

        @Override
        public Void visitNewClass(NewClassTree tree, Void none) {
            holds("an object is made in a constructor, not in " + method, isInConstructor());
            holds("no class without a name in " + method, tree.getClassBody() == null);
            return super.visitNewClass(tree, none);
        }

        @Override
        public Void visitNewArray(NewArrayTree tree, Void none) {
            holds("a row is made in a constructor, not in " + method, isInConstructor());
            return super.visitNewArray(tree, none);
        }

        /** Or in the line of a field. */
        private boolean isInConstructor() {
            return method.isEmpty() || method.equals("<init>");
        }

        private long line(long position) {
            return unit.getLineMap().getLineNumber(position);
        }
    }
}
