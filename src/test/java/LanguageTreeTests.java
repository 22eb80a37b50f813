import com.sun.source.tree.ClassTree;
import com.sun.source.tree.CompilationUnitTree;
import com.sun.source.tree.ExpressionTree;
import com.sun.source.tree.IdentifierTree;
import com.sun.source.tree.MemberSelectTree;
import com.sun.source.tree.MethodInvocationTree;
import com.sun.source.tree.MethodTree;
import com.sun.source.tree.NewClassTree;
import com.sun.source.tree.Tree;
import com.sun.source.tree.VariableTree;
import com.sun.source.util.JavacTask;
import com.sun.source.util.TreeScanner;
import java.io.IOException;
import java.io.UncheckedIOException;
import java.nio.file.Path;
import java.util.EnumSet;
import java.util.Map;
import java.util.Set;
import java.util.TreeMap;
import java.util.TreeSet;
import javax.lang.model.element.Modifier;
import javax.tools.JavaCompiler;
import javax.tools.StandardJavaFileManager;
import javax.tools.ToolProvider;

/** What the syntax of the program tells about the rules of ../shared/LANGUAGE.md. */
final class LanguageTreeTests {
    private static final Set<Tree.Kind> FORBIDDEN = EnumSet.of(Tree.Kind.THROW, Tree.Kind.TRY,
            Tree.Kind.LAMBDA_EXPRESSION, Tree.Kind.MEMBER_REFERENCE, Tree.Kind.SYNCHRONIZED, Tree.Kind.ASSERT,
            Tree.Kind.SWITCH_EXPRESSION, Tree.Kind.INSTANCE_OF, Tree.Kind.ANNOTATION);
    private static final Set<String> LIBRARY = Set.of("Integer.bitCount", "Math.min", "Math.max",
            "System.arraycopy", "Arrays.fill");
    // Rule 11 tells these.
    private static final int MOST_PARAMETERS = 7;
    private static final int MOST_FIELDS = 20;
    private static final int MOST_CLASSES = 12;
    private static final int MOST_DEPTH = 8;

    /** The methods by name; methods of one name are taken together, which can only make calls deeper. */
    private static final class Program extends TreeScanner<Void, Void> {
        final Map<String, Set<String>> callsOf = new TreeMap<>();
        final Map<String, Integer> fieldsOf = new TreeMap<>();
        final Set<String> outside = new TreeSet<>();
        final Set<String> faults = new TreeSet<>();
        private String className = "";
        private String method = "";

        @Override
        public Void scan(Tree tree, Void nothing) {
            if (tree != null && FORBIDDEN.contains(tree.getKind())) {
                faults.add(tree.getKind() + " in " + method + ": " + tree);
            }
            return super.scan(tree, nothing);
        }

        @Override
        public Void visitClass(ClassTree tree, Void nothing) {
            String before = className;
            className = tree.getSimpleName().toString();
            fieldsOf.put(className, 0);
            for (Tree member : tree.getMembers()) {
                if (member instanceof VariableTree) {
                    countField((VariableTree) member);
                }
                method = "";
                scan(member, nothing);
            }
            className = before;
            return null;
        }

        private void countField(VariableTree field) {
            Set<Modifier> flags = field.getModifiers().getFlags();
            if (!flags.contains(Modifier.STATIC)) {
                fieldsOf.merge(className, 1, Integer::sum);
            } else if (!flags.contains(Modifier.FINAL) || !field.getType().toString().equals("int")) {
                faults.add("static state: " + field);
            }
        }

        @Override
        public Void visitMethod(MethodTree tree, Void nothing) {
            boolean isConstructor = tree.getReturnType() == null;
            method = isConstructor ? "new " + className : tree.getName().toString();
            callsOf.putIfAbsent(method, new TreeSet<>());
            if (tree.getParameters().size() > MOST_PARAMETERS) {
                faults.add("too many parameters of " + method);
            }
            return super.visitMethod(tree, nothing);
        }

        @Override
        public Void visitMethodInvocation(MethodInvocationTree tree, Void nothing) {
            ExpressionTree called = tree.getMethodSelect();
            String told = called.toString();
            if (called instanceof MemberSelectTree && Character.isUpperCase(told.charAt(0))
                    && !told.startsWith("Plan.")) {
                outside.add(told);
            } else if (called instanceof MemberSelectTree) {
                addCall(((MemberSelectTree) called).getIdentifier().toString());
            } else if (called instanceof IdentifierTree && !told.equals("super")) {
                addCall(told);
            }
            return super.visitMethodInvocation(tree, nothing);
        }

        @Override
        public Void visitNewClass(NewClassTree tree, Void nothing) {
            addCall("new " + tree.getIdentifier());
            return super.visitNewClass(tree, nothing);
        }

        private void addCall(String called) {
            if (!method.isEmpty()) {
                callsOf.get(method).add(called);
            }
        }

        int depthOf(String called, int around) {
            int deepest = 0;
            if (around > 100) {
                return 0;
            }
            for (String next : callsOf.getOrDefault(called, Set.of())) {
                deepest = Math.max(deepest, depthOf(next, around + 1));
            }
            return deepest + 1;
        }
    }

    private LanguageTreeTests() {
    }

    static void all(Checks checks) {
        Program program = program();
        checks.test("the language: forbidden statements", c -> tellAll(c, program.faults));
        checks.test("the language: the library", c -> library(c, program));
        checks.test("the language: classes and fields", c -> sizes(c, program));
        checks.test("the language: calls are no deeper than eight", c -> depths(c, program));
    }

    // The tests are run from the root of the project.
    private static Program program() {
        JavaCompiler compiler = ToolProvider.getSystemJavaCompiler();
        Program program = new Program();
        try (StandardJavaFileManager files = compiler.getStandardFileManager(null, null, null)) {
            JavacTask task = (JavacTask) compiler.getTask(null, files, null, null, null,
                    files.getJavaFileObjects(Path.of("src/main/java/RoofOrdinances.java")));
            for (CompilationUnitTree unit : task.parse()) {
                program.scan(unit, null);
            }
        } catch (IOException fault) {
            throw new UncheckedIOException(fault);
        }
        return program;
    }

    private static void tellAll(Checks c, Set<String> faults) {
        for (String fault : faults) {
            c.tell(fault);
        }
    }

    private static void library(Checks c, Program program) {
        for (String called : program.outside) {
            if (!LIBRARY.contains(called)) {
                c.tell("a call of the library: " + called);
            }
        }
        for (Map.Entry<String, Set<String>> calls : program.callsOf.entrySet()) {
            for (String called : calls.getValue()) {
                boolean isMade = called.startsWith("new ") && program.fieldsOf.containsKey(called.substring(4));
                if (!isMade && !program.callsOf.containsKey(called)) {
                    c.tell(calls.getKey() + " calls what is not in the file: " + called);
                }
            }
        }
    }

    private static void sizes(Checks c, Program program) {
        c.due("the classes are few", program.fieldsOf.size() <= MOST_CLASSES ? 1 : 0, 1);
        for (Map.Entry<String, Integer> fields : program.fieldsOf.entrySet()) {
            if (fields.getValue() > MOST_FIELDS) {
                c.tell(fields.getKey() + " has " + fields.getValue() + " fields");
            }
        }
    }

    private static void depths(Checks c, Program program) {
        c.due("methods are found", program.callsOf.size() > 80 ? 1 : 0, 1);
        for (String method : program.callsOf.keySet()) {
            int depth = program.depthOf(method, 1);
            if (depth > MOST_DEPTH) {
                c.tell(method + " goes " + depth + " deep");
            }
        }
    }
}
