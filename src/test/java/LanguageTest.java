import com.sun.source.tree.BinaryTree;
import com.sun.source.tree.CatchTree;
import com.sun.source.tree.ClassTree;
import com.sun.source.tree.CompilationUnitTree;
import com.sun.source.tree.IdentifierTree;
import com.sun.source.tree.LambdaExpressionTree;
import com.sun.source.tree.LineMap;
import com.sun.source.tree.MemberReferenceTree;
import com.sun.source.tree.MemberSelectTree;
import com.sun.source.tree.MethodInvocationTree;
import com.sun.source.tree.MethodTree;
import com.sun.source.tree.NewArrayTree;
import com.sun.source.tree.NewClassTree;
import com.sun.source.tree.Tree;
import com.sun.source.tree.TryTree;
import com.sun.source.tree.VariableTree;
import com.sun.source.util.JavacTask;
import com.sun.source.util.SourcePositions;
import com.sun.source.util.TreeScanner;
import com.sun.source.util.Trees;
import java.io.File;
import java.util.ArrayList;
import java.util.HashMap;
import java.util.HashSet;
import java.util.List;
import java.util.Map;
import java.util.Set;
import javax.lang.model.element.Modifier;
import javax.tools.JavaCompiler;
import javax.tools.StandardJavaFileManager;
import javax.tools.ToolProvider;

/** Those rules of LANGUAGE.md for the class that can be seen from its text. */
public final class LanguageTest {
    private static final Set<String> OUTSIDE = Set.of("Math.min", "Math.max", "Long.bitCount", "System.arraycopy");
    private static final Set<String> THROWN = Set.of("IllegalStateException", "IllegalArgumentException",
        "IndexOutOfBoundsException", "UnsupportedOperationException");
    private static CompilationUnitTree unit;
    private static SourcePositions positions;
    private static final Map<String, Set<String>> CALLS = new HashMap<>();
    private static final Set<String> FACE = new HashSet<>();
    private static final List<String> OTHERS = new ArrayList<>();
    private static final Set<String> CLASSES = new HashSet<>();

    public static void main(String[] args) throws Exception {
        JavaCompiler compiler = ToolProvider.getSystemJavaCompiler();
        try (StandardJavaFileManager files = compiler.getStandardFileManager(null, null, null)) {
            JavacTask task = (JavacTask) compiler.getTask(null, files, null, List.of("-proc:none"), null,
                files.getJavaFileObjects(new File("src/main/java/Notebookspire.java")));
            unit = task.parse().iterator().next();
            positions = Trees.instance(task).getSourcePositions();
        }
        Check.due("imports", unit.getImports().size(), 0);
        Check.due("a package line", unit.getPackageName() == null, true);
        Check.due("types in the file", unit.getTypeDecls().size(), 1);
        new Rules().scan(unit, null);
        for (String name : OTHERS) {
            Check.due("1: the name of a public method for " + name, FACE.contains(name), false);
        }
        Check.due("11: at most twelve classes", CLASSES.size() <= 12, true);
        for (String name : FACE) {
            int depth = depth("Notebookspire." + name, new ArrayList<>());
            Check.due("11: calls of " + name + " go eight deep, at most: " + depth, depth <= 8, true);
        }
        Check.end("LanguageTest");
    }

    /** How deep calls go, each method counting once on the way; names stand for methods of any class. */
    private static int depth(String method, List<String> open) {
        if (open.contains(method)) {
            return 0;
        }
        open.add(method);
        int deepest = 0;
        for (String called : CALLS.getOrDefault(method, Set.of())) {
            for (String other : CALLS.keySet()) {
                if (other.endsWith("." + called)) {
                    deepest = Math.max(deepest, depth(other, open));
                }
            }
        }
        open.remove(method);
        return deepest + 1;
    }

    private static final class Rules extends TreeScanner<Void, Void> {
        private String inClass = "";
        private String inMethod = "";
        private boolean inThrow;

        private String at(Tree tree) {
            LineMap lines = unit.getLineMap();
            return "line " + lines.getLineNumber(positions.getStartPosition(unit, tree)) + ": ";
        }

        private void never(String what, Tree tree) {
            Check.due(at(tree) + what, true, false);
        }

        @Override
        public Void visitClass(ClassTree tree, Void nothing) {
            String name = tree.getSimpleName().toString();
            CLASSES.add(name);
            boolean isOuter = inClass.isEmpty();
            Set<Modifier> modifiers = tree.getModifiers().getFlags();
            Check.due(name + " is private and static", isOuter
                || modifiers.contains(Modifier.PRIVATE) && modifiers.contains(Modifier.STATIC), true);
            int fields = 0;
            for (Tree member : tree.getMembers()) {
                if (member instanceof VariableTree) {
                    Set<Modifier> kept = ((VariableTree) member).getModifiers().getFlags();
                    fields += kept.contains(Modifier.STATIC) ? 0 : 1;
                    Check.due(at(member) + "a static field is final",
                        !kept.contains(Modifier.STATIC) || kept.contains(Modifier.FINAL), true);
                }
            }
            Check.due("11: twenty fields of " + name, fields <= 20, true);
            String outer = inClass;
            inClass = name;
            super.visitClass(tree, nothing);
            inClass = outer;
            return null;
        }

        @Override
        public Void visitMethod(MethodTree tree, Void nothing) {
            String name = tree.getName().toString();
            if (!name.equals("<init>")) {
                if (tree.getModifiers().getFlags().contains(Modifier.PUBLIC)) {
                    FACE.add(name);
                } else {
                    OTHERS.add(name);
                    Check.due("11: seven parameters of " + name, tree.getParameters().size() <= 7, true);
                }
            }
            LineMap lines = unit.getLineMap();
            long length = lines.getLineNumber(positions.getEndPosition(unit, tree))
                - lines.getLineNumber(positions.getStartPosition(unit, tree)) + 1;
            Check.due("11: sixty lines of " + name, length <= 60, true);
            inMethod = inClass + "." + name;
            CALLS.put(inMethod, new HashSet<>());
            super.visitMethod(tree, nothing);
            inMethod = "";
            return null;
        }

        @Override
        public Void visitMethodInvocation(MethodInvocationTree tree, Void nothing) {
            Tree select = tree.getMethodSelect();
            String name = select.toString();
            if (select instanceof MemberSelectTree) {
                MemberSelectTree member = (MemberSelectTree) select;
                String on = member.getExpression().toString();
                if (Character.isUpperCase(on.charAt(0)) && !CLASSES.contains(on) && !on.equals("Deck")) {
                    Check.due(at(tree) + "4: the library's " + name, OUTSIDE.contains(name), true);
                    return super.visitMethodInvocation(tree, nothing);
                }
                name = member.getIdentifier().toString();
            }
            if (CALLS.containsKey(inMethod)) {
                CALLS.get(inMethod).add(name);
            }
            return super.visitMethodInvocation(tree, nothing);
        }

        @Override
        public Void visitBinary(BinaryTree tree, Void nothing) {
            if (tree.getKind() == Tree.Kind.PLUS && tree.toString().contains("\"")) {
                never("10: texts joined by +", tree);
            }
            return super.visitBinary(tree, nothing);
        }

        @Override
        public Void visitLambdaExpression(LambdaExpressionTree tree, Void nothing) {
            never("2: a lambda", tree);
            return null;
        }

        @Override
        public Void visitMemberReference(MemberReferenceTree tree, Void nothing) {
            never("2: a method reference", tree);
            return null;
        }

        @Override
        public Void visitTry(TryTree tree, Void nothing) {
            never("6: none is needed here", tree);
            return null;
        }

        @Override
        public Void visitCatch(CatchTree tree, Void nothing) {
            never("6: none is needed here", tree);
            return null;
        }

        @Override
        public Void visitThrow(com.sun.source.tree.ThrowTree tree, Void nothing) {
            Check.due(at(tree) + "6: throw new", tree.getExpression() instanceof NewClassTree, true);
            Check.due(at(tree) + "6: not in a constructor", inMethod.endsWith("<init>"), false);
            inThrow = true;
            super.visitThrow(tree, nothing);
            inThrow = false;
            return null;
        }

        @Override
        public Void visitNewClass(NewClassTree tree, Void nothing) {
            String made = tree.getIdentifier().toString();
            Check.due(at(tree) + "new " + made, inThrow ? THROWN.contains(made) : !made.endsWith("Exception"), true);
            return super.visitNewClass(tree, nothing);
        }

        @Override
        public Void visitNewArray(NewArrayTree tree, Void nothing) {
            Check.due(at(tree) + "12: arrays are made by constructors and make",
                inMethod.isEmpty() || inMethod.endsWith("<init>"), true);
            return super.visitNewArray(tree, nothing);
        }

        @Override
        public Void visitIdentifier(IdentifierTree tree, Void nothing) {
            String name = tree.getName().toString();
            if (name.equals("String") || name.equals("Object") || name.equals("Integer")) {
                never("nothing needs " + name, tree);
            }
            return super.visitIdentifier(tree, nothing);
        }
    }
}
