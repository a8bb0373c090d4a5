import com.sun.source.tree.AssertTree;
import com.sun.source.tree.BinaryTree;
import com.sun.source.tree.ClassTree;
import com.sun.source.tree.CompilationUnitTree;
import com.sun.source.tree.CompoundAssignmentTree;
import com.sun.source.tree.ImportTree;
import com.sun.source.tree.LambdaExpressionTree;
import com.sun.source.tree.MemberReferenceTree;
import com.sun.source.tree.MethodInvocationTree;
import com.sun.source.tree.MethodTree;
import com.sun.source.tree.NewArrayTree;
import com.sun.source.tree.NewClassTree;
import com.sun.source.tree.SynchronizedTree;
import com.sun.source.tree.ThrowTree;
import com.sun.source.tree.Tree;
import com.sun.source.tree.TryTree;
import com.sun.source.tree.VariableTree;
import com.sun.source.util.JavacTask;
import com.sun.source.util.TreePath;
import com.sun.source.util.TreePathScanner;
import com.sun.source.util.Trees;
import java.io.File;
import java.io.IOException;
import java.util.HashMap;
import java.util.HashSet;
import java.util.List;
import java.util.Map;
import java.util.Set;
import javax.lang.model.element.Element;
import javax.lang.model.element.ElementKind;
import javax.lang.model.element.Modifier;
import javax.lang.model.element.TypeElement;
import javax.tools.JavaCompiler;
import javax.tools.StandardJavaFileManager;
import javax.tools.ToolProvider;

/** The rules of ../shared/LANGUAGE.md that can be counted or looked up in the source. */
public final class LanguageTest {
    // Of each class of the library the methods that rule 4 lists; of Integer, Long and Math it lists all but some.
    private static final Map<String, Set<String>> LIBRARY = Map.of(
        "String", Set.of("length", "charAt", "isEmpty", "equals", "indexOf", "substring", "toCharArray", "<init>"),
        "StringBuilder", Set.of("<init>", "append", "charAt", "setCharAt", "setLength", "deleteCharAt", "reverse", "length", "toString"),
        "ArrayList", Set.of("<init>", "add", "get", "set", "remove", "size", "isEmpty", "clear", "iterator"),
        "List", Set.of("of", "add", "get", "set", "remove", "size", "isEmpty", "clear", "iterator"),
        "System", Set.of("arraycopy"),
        "Arrays", Set.of("copyOf", "copyOfRange", "fill"),
        "Object", Set.of("<init>"),
        "Array", Set.of("clone"));
    private static final Set<String> OF_NUMBERS = Set.of("Integer", "Long", "Math");
    // Where the rules say "some", a little more is not refused here.
    private static final int CLASSES = 14;
    private static final int FIELDS = 24;
    private static final int LINES = 70;
    private static final int DEEP = 8;

    private static final Map<Element, Set<Element>> CALLS = new HashMap<>();
    private static final Set<String> PUBLIC_METHODS = new HashSet<>();
    private static int classes = 0;

    public static void main(String[] args) throws IOException {
        JavaCompiler compiler = ToolProvider.getSystemJavaCompiler();
        StandardJavaFileManager files = compiler.getStandardFileManager(null, null, null);
        JavacTask task = (JavacTask) compiler.getTask(null, files, null, null, null,
            files.getJavaFileObjects(new File("src/main/java/TexelBank.java")));
        CompilationUnitTree unit = task.parse().iterator().next();
        task.analyze();
        Trees trees = Trees.instance(task);
        new FaceScanner().scan(unit, null);
        new RuleScanner(trees, unit).scan(unit, null);
        Due.due("public methods", PUBLIC_METHODS.size(), 46);
        Due.dueTrue(classes + " classes", classes <= CLASSES);
        for (Element method : CALLS.keySet()) {
            int depth = depth(method, new HashSet<>());
            Due.dueTrue("calls from " + method + " go " + depth + " deep", depth <= DEEP);
        }
        Due.close();
    }

    /** How deep calls go that are no recursion. */
    private static int depth(Element method, Set<Element> open) {
        int deepest = 0;
        if (open.add(method)) {
            for (Element called : CALLS.getOrDefault(method, Set.of())) {
                deepest = open.contains(called) ? deepest : Math.max(deepest, depth(called, open));
            }
            open.remove(method);
        }
        return 1 + deepest;
    }

    private static final class FaceScanner extends TreePathScanner<Void, Void> {
        @Override
        public Void visitMethod(MethodTree method, Void nothing) {
            if (method.getModifiers().getFlags().contains(Modifier.PUBLIC) && method.getReturnType() != null) {
                PUBLIC_METHODS.add(method.getName().toString());
            }
            return super.visitMethod(method, nothing);
        }
    }

    private static final class RuleScanner extends TreePathScanner<Void, Void> {
        private final Trees trees;
        private final CompilationUnitTree unit;
        private Element method;

        RuleScanner(Trees trees, CompilationUnitTree unit) {
            this.trees = trees;
            this.unit = unit;
        }

        private void banned(String what, Tree tree) {
            Due.dueTrue(what + " in line " + line(trees.getSourcePositions().getStartPosition(unit, tree)), false);
        }

        private long line(long position) {
            return unit.getLineMap().getLineNumber(position);
        }

        @Override
        public Void visitImport(ImportTree tree, Void nothing) {
            String name = tree.getQualifiedIdentifier().toString();
            Set<String> listed = Set.of("java.util.Arrays", "java.util.ArrayList", "java.util.List", "java.util.Iterator");
            Due.dueTrue("import of " + name, listed.contains(name) && !tree.isStatic());
            return super.visitImport(tree, nothing);
        }

        @Override
        public Void visitClass(ClassTree tree, Void nothing) {
            classes++;
            boolean outer = tree.getSimpleName().contentEquals("TexelBank");
            Set<Modifier> flags = tree.getModifiers().getFlags();
            boolean hidden = !flags.contains(Modifier.PUBLIC) && !flags.contains(Modifier.PROTECTED);
            boolean isStatic = flags.contains(Modifier.STATIC) || tree.getKind() != Tree.Kind.CLASS;
            Due.dueTrue(tree.getSimpleName() + " is public and final, or hidden and static",
                outer ? flags.contains(Modifier.PUBLIC) && flags.contains(Modifier.FINAL) : hidden && isStatic);
            int fields = 0;
            for (Tree member : tree.getMembers()) {
                if (member instanceof VariableTree field) {
                    Set<Modifier> of = field.getModifiers().getFlags();
                    fields += of.contains(Modifier.STATIC) ? 0 : 1;
                    Due.dueTrue(field.getName() + ": static is final", !of.contains(Modifier.STATIC) || of.contains(Modifier.FINAL));
                    boolean face = List.of("NONE", "STRANGE").contains(field.getName().toString());
                    Due.dueTrue(field.getName() + ": private, or of the face", !outer || of.contains(Modifier.PRIVATE) || face);
                }
                Due.dueTrue("no initialiser block", member.getKind() != Tree.Kind.BLOCK);
            }
            Due.dueTrue(tree.getSimpleName() + " has " + fields + " fields", fields <= FIELDS);
            return super.visitClass(tree, nothing);
        }

        @Override
        public Void visitMethod(MethodTree tree, Void nothing) {
            Element before = method;
            method = trees.getElement(getCurrentPath());
            CALLS.putIfAbsent(method, new HashSet<>());
            long lines = line(trees.getSourcePositions().getEndPosition(unit, tree)) - line(trees.getSourcePositions().getStartPosition(unit, tree)) + 1;
            Due.dueTrue(tree.getName() + " has " + lines + " lines", lines <= LINES);
            Due.dueTrue(tree.getName() + " has at most seven parameters", tree.getParameters().size() <= 7);
            boolean own = !tree.getModifiers().getFlags().contains(Modifier.PUBLIC);
            Due.dueTrue(tree.getName() + " is no name of a public method", !own || !PUBLIC_METHODS.contains(tree.getName().toString()));
            boolean inFace = method.getEnclosingElement().getSimpleName().contentEquals("TexelBank");
            Due.dueTrue(tree.getName() + " is private, or of the face", !inFace || !own || tree.getModifiers().getFlags().contains(Modifier.PRIVATE));
            super.visitMethod(tree, nothing);
            method = before;
            return null;
        }

        private void call(Tree tree) {
            Element called = trees.getElement(new TreePath(getCurrentPath(), tree));
            if (called == null || method == null) {
                return;
            }
            TypeElement owner = (TypeElement) called.getEnclosingElement();
            String name = owner.getQualifiedName().toString();
            if (name.startsWith("TexelBank")) {
                CALLS.get(method).add(called);
            } else {
                String of = owner.getSimpleName().toString();
                String used = called.getSimpleName().toString();
                boolean listed = OF_NUMBERS.contains(of) ? !used.endsWith("Exact") : LIBRARY.getOrDefault(of, Set.of()).contains(used);
                Due.dueTrue(of + "." + used + " is of the library that is listed", listed);
            }
        }

        @Override
        public Void visitMethodInvocation(MethodInvocationTree tree, Void nothing) {
            call(tree.getMethodSelect());
            return super.visitMethodInvocation(tree, nothing);
        }

        /** No call leaves things behind: what is made is made with its object, but for the rows of ACTS. */
        private void make(Tree tree) {
            boolean kept = method == null || method.getKind() == ElementKind.CONSTRUCTOR || method.getSimpleName().contentEquals("begun");
            Due.dueTrue("what is made in line " + line(trees.getSourcePositions().getStartPosition(unit, tree)) + " is kept", kept);
        }

        @Override
        public Void visitNewArray(NewArrayTree tree, Void nothing) {
            make(tree);
            return super.visitNewArray(tree, nothing);
        }

        @Override
        public Void visitNewClass(NewClassTree tree, Void nothing) {
            make(tree);
            Element made = trees.getElement(getCurrentPath());
            String of = made.getEnclosingElement().getSimpleName().toString();
            boolean own = made.getEnclosingElement().toString().startsWith("TexelBank");
            Due.dueTrue("new " + tree.getIdentifier(), (own || LIBRARY.getOrDefault(of, Set.of()).contains("<init>")) && tree.getClassBody() == null);
            if (method != null && own) {
                CALLS.get(method).add(made);
            }
            return super.visitNewClass(tree, nothing);
        }

        @Override
        public Void visitBinary(BinaryTree tree, Void nothing) {
            if (tree.getKind() == Tree.Kind.PLUS && "java.lang.String".equals(trees.getTypeMirror(getCurrentPath()).toString())) {
                banned("joining of texts by +", tree);
            }
            return super.visitBinary(tree, nothing);
        }

        @Override
        public Void visitCompoundAssignment(CompoundAssignmentTree tree, Void nothing) {
            if ("java.lang.String".equals(trees.getTypeMirror(getCurrentPath()).toString())) {
                banned("joining of texts by +=", tree);
            }
            return super.visitCompoundAssignment(tree, nothing);
        }

        @Override
        public Void visitThrow(ThrowTree tree, Void nothing) {
            banned("throw", tree);
            return super.visitThrow(tree, nothing);
        }

        @Override
        public Void visitTry(TryTree tree, Void nothing) {
            banned("try", tree);
            return super.visitTry(tree, nothing);
        }

        @Override
        public Void visitSynchronized(SynchronizedTree tree, Void nothing) {
            banned("synchronized", tree);
            return super.visitSynchronized(tree, nothing);
        }

        @Override
        public Void visitAssert(AssertTree tree, Void nothing) {
            banned("assert", tree);
            return super.visitAssert(tree, nothing);
        }

        @Override
        public Void visitLambdaExpression(LambdaExpressionTree tree, Void nothing) {
            banned("lambda", tree);
            return super.visitLambdaExpression(tree, nothing);
        }

        @Override
        public Void visitMemberReference(MemberReferenceTree tree, Void nothing) {
            banned("method reference", tree);
            return super.visitMemberReference(tree, nothing);
        }
    }
}
