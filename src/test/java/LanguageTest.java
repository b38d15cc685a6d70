import com.sun.source.tree.ArrayAccessTree;
import com.sun.source.tree.BinaryTree;
import com.sun.source.tree.ClassTree;
import com.sun.source.tree.CompilationUnitTree;
import com.sun.source.tree.MethodInvocationTree;
import com.sun.source.tree.MethodTree;
import com.sun.source.tree.NewArrayTree;
import com.sun.source.tree.NewClassTree;
import com.sun.source.tree.Tree;
import com.sun.source.tree.VariableTree;
import com.sun.source.util.JavacTask;
import com.sun.source.util.TreePathScanner;
import com.sun.source.util.Trees;
import java.io.File;
import java.util.EnumSet;
import java.util.HashSet;
import java.util.HashMap;
import java.util.Map;
import java.util.Set;
import java.util.TreeSet;
import javax.lang.model.element.Modifier;
import javax.tools.JavaCompiler;
import javax.tools.StandardJavaFileManager;
import javax.tools.ToolProvider;

/** The rules of ../shared/LANGUAGE.md that can be seen in the source's tree. Its argument is the source's path. */
public final class LanguageTest {
    private static final Set<Tree.Kind> NEVER = EnumSet.of(Tree.Kind.THROW, Tree.Kind.TRY, Tree.Kind.CATCH,
            Tree.Kind.SYNCHRONIZED, Tree.Kind.ASSERT, Tree.Kind.LAMBDA_EXPRESSION, Tree.Kind.MEMBER_REFERENCE,
            Tree.Kind.TYPE_CAST, Tree.Kind.INSTANCE_OF, Tree.Kind.IMPORT, Tree.Kind.PACKAGE, Tree.Kind.ANNOTATION,
            Tree.Kind.FLOAT_LITERAL, Tree.Kind.DOUBLE_LITERAL, Tree.Kind.DIVIDE_ASSIGNMENT, Tree.Kind.REMAINDER_ASSIGNMENT);
    private static final Set<String> LIBRARY = Set.of("Math.abs", "Math.max", "word.length", "word.charAt");
    private static final Set<String> INDEX_TESTED_IN = Set.of("at", "put", "copyRow", "add", "byteAt");
    private static final int MOST_LINES = 60, MOST_PARAMETERS = 7, MOST_CLASSES = 12, MOST_FIELDS = 20, MOST_DEEP = 8;

    public static void main(String[] args) throws Exception {
        File source = new File(args.length > 0 ? args[0] : "src/main/java/HeaviestFirst.java");
        JavaCompiler compiler = ToolProvider.getSystemJavaCompiler();
        try (StandardJavaFileManager files = compiler.getStandardFileManager(null, null, null)) {
            JavacTask task = (JavacTask) compiler.getTask(null, files, null, null, null, files.getJavaFileObjects(source));
            Rules rules = new Rules(task);
            for (CompilationUnitTree unit : task.parse()) {
                rules.unit = unit;
                rules.scan(unit, null);
            }
            rules.judge();
        }
        Check.end("LanguageTest");
    }

    private static final class Rules extends TreePathScanner<Void, Void> {
        final Trees trees;
        CompilationUnitTree unit;
        final Set<String> publicMethods = new HashSet<>();
        final Set<String> otherMethods = new HashSet<>();
        final Map<String, Set<String>> calls = new HashMap<>();
        String method;
        int classes;
        int casts;

        Rules(JavacTask task) {
            trees = Trees.instance(task);
        }

        private long line(long position) {
            return unit.getLineMap().getLineNumber(position);
        }

        private String where(Tree tree) {
            return "line " + line(trees.getSourcePositions().getStartPosition(unit, tree)) + ": ";
        }

        @Override
        public Void scan(Tree tree, Void nothing) {
            // a cast between numbers can not fail; there are two
            if (tree != null && tree.getKind() == Tree.Kind.TYPE_CAST) {
                casts++;
            } else if (tree != null) {
                Check.holds(where(tree) + "no " + tree.getKind(), !NEVER.contains(tree.getKind()));
            }
            return super.scan(tree, nothing);
        }

        @Override
        public Void visitClass(ClassTree tree, Void nothing) {
            Set<Modifier> flags = tree.getModifiers().getFlags();
            Check.holds(where(tree) + "the face is public, classes inside are static",
                    flags.contains(classes == 0 ? Modifier.PUBLIC : Modifier.STATIC));
            classes++;
            int fields = 0;
            for (Tree member : tree.getMembers()) {
                if (member instanceof VariableTree) {
                    Set<Modifier> own = ((VariableTree) member).getModifiers().getFlags();
                    fields += own.contains(Modifier.STATIC) ? 0 : 1;
                    Check.holds(where(member) + "static fields are final",
                            !own.contains(Modifier.STATIC) || own.contains(Modifier.FINAL));
                }
                Check.holds(where(member) + "no block of statements in a class", member.getKind() != Tree.Kind.BLOCK);
            }
            Check.holds(where(tree) + "at most " + MOST_FIELDS + " fields", fields <= MOST_FIELDS);
            return super.visitClass(tree, nothing);
        }

        @Override
        public Void visitMethod(MethodTree tree, Void nothing) {
            method = tree.getName().toString();
            calls.computeIfAbsent(method, key -> new TreeSet<>());
            Check.holds(where(tree) + "at most seven parameters", tree.getParameters().size() <= MOST_PARAMETERS);
            Check.holds(where(tree) + "no exceptions told", tree.getThrows().isEmpty());
            long first = line(trees.getSourcePositions().getStartPosition(unit, tree));
            long last = line(trees.getSourcePositions().getEndPosition(unit, tree));
            Check.holds(where(tree) + "short", last - first < MOST_LINES);
            boolean isPublic = tree.getModifiers().getFlags().contains(Modifier.PUBLIC);
            // names stand once in the file, so that the calls below can be told apart by them
            Check.holds(where(tree) + method + " is named once", method.equals("<init>")
                    || !publicMethods.contains(method) && !otherMethods.contains(method));
            (isPublic ? publicMethods : otherMethods).add(method);
            super.visitMethod(tree, nothing);
            method = null;
            return null;
        }

        @Override
        public Void visitMethodInvocation(MethodInvocationTree tree, Void nothing) {
            String called = tree.getMethodSelect().toString();
            if (!LIBRARY.contains(called) && method != null) {
                calls.get(method).add(called.substring(called.lastIndexOf('.') + 1));
            }
            return super.visitMethodInvocation(tree, nothing);
        }

        @Override
        public Void visitArrayAccess(ArrayAccessTree tree, Void nothing) {
            Check.holds(where(tree) + "indexes are used where they are tested", INDEX_TESTED_IN.contains(method));
            return super.visitArrayAccess(tree, nothing);
        }

        @Override
        public Void visitBinary(BinaryTree tree, Void nothing) {
            boolean divides = tree.getKind() == Tree.Kind.DIVIDE || tree.getKind() == Tree.Kind.REMAINDER;
            Check.holds(where(tree) + "a divisor is a number, or tested in draw", !divides
                    || tree.getRightOperand().getKind() == Tree.Kind.INT_LITERAL || "draw".equals(method));
            return super.visitBinary(tree, nothing);
        }

        @Override
        public Void visitNewArray(NewArrayTree tree, Void nothing) {
            Check.holds(where(tree) + "rows are made with their object", method == null);
            return super.visitNewArray(tree, nothing);
        }

        @Override
        public Void visitNewClass(NewClassTree tree, Void nothing) {
            Check.holds(where(tree) + "objects are made with the one object", method == null);
            return super.visitNewClass(tree, nothing);
        }

        void judge() {
            Check.holds("at most twelve classes", classes <= MOST_CLASSES);
            Check.holds("two casts, both to a number", casts == 2);
            for (String name : otherMethods) {
                Check.holds(name + " bears no public name", !publicMethods.contains(name));
            }
            for (String name : calls.keySet()) {
                for (String called : calls.get(name)) {
                    Check.holds(name + " calls " + called + ", which stands here", calls.containsKey(called));
                    Check.holds(name + " calls nothing public", !publicMethods.contains(called));
                }
                int deep = depth(name, 0);
                Check.holds(name + " goes " + deep + " deep", deep <= MOST_DEEP);
            }
        }

        /** How many methods stand open at most; extend and append call one another, once a letter. */
        private int depth(String name, int open) {
            Check.holds(name + " is no recursion that was not meant", open < 40);
            int deepest = 0;
            for (String called : open < 40 ? calls.getOrDefault(name, Set.of()) : Set.<String>of()) {
                if (!(name.equals("append") && called.equals("extend"))) {
                    deepest = Math.max(deepest, depth(called, open + 1));
                }
            }
            return deepest + 1;
        }
    }
}
