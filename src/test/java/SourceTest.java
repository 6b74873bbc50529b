import com.sun.source.tree.*;
import com.sun.source.util.JavacTask;
import com.sun.source.util.TreePathScanner;
import com.sun.source.util.Trees;
import java.nio.file.Files;
import java.nio.file.Path;
import java.util.HashMap;
import java.util.LinkedHashSet;
import java.util.List;
import java.util.Map;
import java.util.Set;
import javax.lang.model.element.Element;
import javax.lang.model.element.Modifier;
import javax.lang.model.type.TypeKind;
import javax.lang.model.type.TypeMirror;
import javax.tools.JavaCompiler;
import javax.tools.StandardJavaFileManager;
import javax.tools.ToolProvider;

/** The rules of LANGUAGE.md that can be seen in the source as the compiler reads it. */
public final class SourceTest {
    private static final String PROGRAM = "src/main/java/JawShores.java";
    private static final int MOST_LINES = 60, MOST_PARAMETERS = 7, DEEPEST = 8, MOST_CLASSES = 12, MOST_FIELDS = 20;
    private static final Map<String, Set<String>> LIBRARY = Map.of(
        "java.lang.String", Set.of("length", "charAt", "isEmpty", "equals", "indexOf", "substring", "toCharArray", "<init>"),
        "java.lang.StringBuilder", Set.of("<init>", "append", "charAt", "setCharAt", "setLength", "deleteCharAt", "reverse", "length", "toString"),
        "java.lang.Integer", Set.of("compare", "max", "min", "bitCount"),
        "java.lang.Long", Set.of("compare", "max", "min", "bitCount"),
        "java.lang.Math", Set.of("max", "min", "abs", "floorDiv", "floorMod"),
        "java.lang.System", Set.of("arraycopy"),
        "java.util.Arrays", Set.of("copyOf", "copyOfRange", "fill"),
        "java.lang.Object", Set.of("<init>"));
    private static int wrong = 0;

    private static void say(String what) {
        wrong++;
        System.out.println(what);
    }

    /** Looks at every node, and keeps which method calls which. */
    private static final class Reader extends TreePathScanner<Void, Void> {
        final Map<Element, Set<Element>> calls = new HashMap<>();
        int classes;
        private final Trees trees;
        private final CompilationUnitTree unit;
        private Element method;

        Reader(Trees trees, CompilationUnitTree unit) {
            this.trees = trees;
            this.unit = unit;
        }

        private void broken(Tree tree, String rule) {
            long line = unit.getLineMap().getLineNumber(trees.getSourcePositions().getStartPosition(unit, tree));
            say(PROGRAM + ", line " + line + ": " + rule);
        }

        @Override public Void visitImport(ImportTree tree, Void none) {
            broken(tree, "an import, which the program does without");
            return super.visitImport(tree, none);
        }

        @Override public Void visitClass(ClassTree tree, Void none) {
            classes++;
            Element self = trees.getElement(getCurrentPath());
            boolean isInside = classes > 1;
            if (tree.getSimpleName().length() == 0 || method != null) broken(tree, "a local or anonymous class");
            if (isInside && !self.getModifiers().contains(Modifier.STATIC)) broken(tree, "a class inside that is not static");
            if (isInside && self.getModifiers().contains(Modifier.PUBLIC)) broken(tree, "a class inside that is public");
            int fields = 0;
            for (Tree member : tree.getMembers()) {
                if (member instanceof BlockTree) broken(member, "an initialiser block");
                if (member instanceof VariableTree field && !field.getModifiers().getFlags().contains(Modifier.STATIC)) fields++;
            }
            if (fields > MOST_FIELDS) broken(tree, fields + " fields");
            return super.visitClass(tree, none);
        }

        @Override public Void visitMethod(MethodTree tree, Void none) {
            Element outer = method;
            method = trees.getElement(getCurrentPath());
            calls.computeIfAbsent(method, m -> new LinkedHashSet<>());
            if (tree.getParameters().size() > MOST_PARAMETERS) broken(tree, "many parameters");
            if (!tree.getThrows().isEmpty()) broken(tree, "throws");
            long start = unit.getLineMap().getLineNumber(Math.max(0, trees.getSourcePositions().getStartPosition(unit, tree)));
            long end = unit.getLineMap().getLineNumber(Math.max(0, trees.getSourcePositions().getEndPosition(unit, tree)));
            if (end - start >= MOST_LINES) broken(tree, "a method of " + (end - start + 1) + " lines");
            super.visitMethod(tree, none);
            method = outer;
            return null;
        }

        @Override public Void visitVariable(VariableTree tree, Void none) {
            Element self = trees.getElement(getCurrentPath());
            boolean isStatic = self.getModifiers().contains(Modifier.STATIC);
            if (isStatic && !self.getModifiers().contains(Modifier.FINAL)) broken(tree, "a static field that is not final");
            if (isStatic && !isConstant(self.asType())) broken(tree, "a static field of " + self.asType());
            if (!isAllowed(self.asType())) broken(tree, "a variable of " + self.asType());
            return super.visitVariable(tree, none);
        }

        private static boolean isConstant(TypeMirror type) {
            return Set.of("int", "long", "boolean", "char", "java.lang.String", "int[]", "long[]", "char[]", "byte[]").contains(type.toString());
        }

        private static boolean isAllowed(TypeMirror type) {
            String name = type.toString().replace("[]", "");
            return type.getKind().isPrimitive() || name.startsWith("JawShores") || name.startsWith("java.lang.String")
                || type.getKind() == TypeKind.ARRAY && !name.startsWith("java.");
        }

        @Override public Void visitMethodInvocation(MethodInvocationTree tree, Void none) {
            called(tree);
            return super.visitMethodInvocation(tree, none);
        }

        @Override public Void visitNewClass(NewClassTree tree, Void none) {
            called(tree);
            return super.visitNewClass(tree, none);
        }

        private void called(Tree tree) {
            Element it = trees.getElement(getCurrentPath());
            String owner = it.getEnclosingElement().toString();
            if (!owner.startsWith("JawShores")) {
                if (!LIBRARY.getOrDefault(owner, Set.of()).contains(it.getSimpleName().toString())) broken(tree, owner + "." + it);
            } else if (method != null) {
                calls.get(method).add(it);
            }
        }

        @Override public Void visitThrow(ThrowTree tree, Void none) {
            broken(tree, "throw");
            return super.visitThrow(tree, none);
        }

        @Override public Void visitTry(TryTree tree, Void none) {
            broken(tree, "try");
            return super.visitTry(tree, none);
        }

        @Override public Void visitSynchronized(SynchronizedTree tree, Void none) {
            broken(tree, "synchronized");
            return super.visitSynchronized(tree, none);
        }

        @Override public Void visitAssert(AssertTree tree, Void none) {
            broken(tree, "assert");
            return super.visitAssert(tree, none);
        }

        @Override public Void visitLambdaExpression(LambdaExpressionTree tree, Void none) {
            broken(tree, "a lambda");
            return super.visitLambdaExpression(tree, none);
        }

        @Override public Void visitMemberReference(MemberReferenceTree tree, Void none) {
            broken(tree, "a method reference");
            return super.visitMemberReference(tree, none);
        }
    }

    /** How many methods stand open at most; a method that stands open already is recursion, and not gone into. */
    private static int depth(Element method, Map<Element, Set<Element>> calls, Set<Element> open) {
        if (!open.add(method)) return 0;
        int deepest = 0;
        for (Element next : calls.getOrDefault(method, Set.of())) deepest = Math.max(deepest, depth(next, calls, open));
        open.remove(method);
        return deepest + 1;
    }

    public static void main(String[] args) throws Exception {
        JavaCompiler compiler = ToolProvider.getSystemJavaCompiler();
        try (StandardJavaFileManager files = compiler.getStandardFileManager(null, null, null)) {
            var sources = files.getJavaFileObjects(Path.of(PROGRAM));
            JavacTask task = (JavacTask) compiler.getTask(null, files, null, List.of("-proc:none"), null, sources);
            CompilationUnitTree unit = task.parse().iterator().next();
            task.analyze();
            Reader reader = new Reader(Trees.instance(task), unit);
            reader.scan(unit, null);
            if (unit.getTypeDecls().size() != 1 || unit.getPackage() != null) say("not one class without a package");
            if (reader.classes > MOST_CLASSES) say(reader.classes + " classes");
            for (Element method : reader.calls.keySet()) {
                int deep = depth(method, reader.calls, new LinkedHashSet<>());
                if (deep > DEEPEST) say(method + " goes " + deep + " deep");
            }
        }
        String source = Files.readString(Path.of(PROGRAM));
        for (int i = 0; i < source.length(); i++) if (source.charAt(i) > 126) say("a sign above 126 at " + i);
        System.out.println(wrong == 0 ? "the source keeps the rules" : wrong + " rules are broken");
        if (wrong != 0) System.exit(1);
    }
}
