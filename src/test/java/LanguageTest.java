import com.sun.source.tree.BinaryTree;
import com.sun.source.tree.ClassTree;
import com.sun.source.tree.CompilationUnitTree;
import com.sun.source.tree.LiteralTree;
import com.sun.source.tree.MethodInvocationTree;
import com.sun.source.tree.MethodTree;
import com.sun.source.tree.NewClassTree;
import com.sun.source.tree.Tree;
import com.sun.source.tree.UnaryTree;
import com.sun.source.tree.VariableTree;
import com.sun.source.util.JavacTask;
import com.sun.source.util.TreePathScanner;
import com.sun.source.util.Trees;
import java.lang.reflect.Constructor;
import java.lang.reflect.Field;
import java.lang.reflect.Method;
import java.lang.reflect.Modifier;
import java.nio.file.Files;
import java.nio.file.Path;
import java.util.ArrayList;
import java.util.HashMap;
import java.util.HashSet;
import java.util.List;
import java.util.Map;
import java.util.Set;
import java.util.TreeSet;
import javax.lang.model.element.Element;
import javax.lang.model.element.ExecutableElement;
import javax.lang.model.type.TypeKind;
import javax.lang.model.type.TypeMirror;
import javax.tools.JavaCompiler;
import javax.tools.StandardJavaFileManager;
import javax.tools.ToolProvider;

/** The face that the document tells, and the rules of LANGUAGE.md that the compiler's own tree can show. */
public final class LanguageTest {
    private static final Path SOURCE = Path.of("src/main/java/ReservoirWall.java");
    private static final Path DOCUMENT = Path.of("../shared/DOC.md");
    private static final Set<Tree.Kind> NEVER = Set.of(Tree.Kind.THROW, Tree.Kind.TRY, Tree.Kind.SYNCHRONIZED, Tree.Kind.ASSERT,
            Tree.Kind.LAMBDA_EXPRESSION, Tree.Kind.MEMBER_REFERENCE);
    private static final Set<String> LIBRARY = Set.of("java.lang.Math.min", "java.lang.System.arraycopy", "java.util.ArrayList.add",
            "java.util.ArrayList.get", "java.util.ArrayList.size");

    private static int wrong = 0;

    private static void wrong(String what) {
        wrong++;
        System.out.println("LanguageTest: " + what);
    }

    /** The face as lines of the document, without what names the parameters. */
    private static Set<String> promised() throws Exception {
        Set<String> lines = new TreeSet<>();
        boolean inFace = false;
        for (String line : Files.readAllLines(DOCUMENT)) {
            String text = line.strip();
            if (text.startsWith("public final class ReservoirWall")) {
                inFace = true;
            } else if (inFace && text.equals("}")) {
                return lines;
            } else if (inFace && text.startsWith("public static final int")) {
                for (String constant : text.substring("public static final int".length(), text.length() - 1).split(",")) {
                    lines.add(constant.strip());
                }
            } else if (inFace && text.endsWith(");")) {
                lines.add(text.replaceAll("^public ", "").replaceAll("(int|long|boolean) \\w+([,)])", "$1$2").replace(";", ""));
            }
        }
        return lines;
    }

    private static Set<String> built() throws Exception {
        Set<String> lines = new TreeSet<>();
        for (Field f : ReservoirWall.class.getDeclaredFields()) {
            if (Modifier.isPublic(f.getModifiers())) {
                lines.add(f.getName() + " = " + f.getInt(null));
            } else if (!Modifier.isPrivate(f.getModifiers())) {
                wrong("rule 1: field " + f);
            }
        }
        for (Constructor<?> c : ReservoirWall.class.getDeclaredConstructors()) {
            lines.add("ReservoirWall(" + typesOf(c.getParameterTypes()) + ")");
        }
        Set<String> publicNames = new HashSet<>();
        for (Method m : ReservoirWall.class.getDeclaredMethods()) {
            if (Modifier.isPublic(m.getModifiers())) {
                publicNames.add(m.getName());
                lines.add(m.getReturnType() + " " + m.getName() + "(" + typesOf(m.getParameterTypes()) + ")");
            }
        }
        for (Method m : ReservoirWall.class.getDeclaredMethods()) {
            if (!Modifier.isPublic(m.getModifiers()) && (!Modifier.isPrivate(m.getModifiers()) || publicNames.contains(m.getName()))) {
                wrong("rule 1: method " + m);
            }
        }
        for (Class<?> c : ReservoirWall.class.getDeclaredClasses()) {
            if (!Modifier.isPrivate(c.getModifiers()) || !Modifier.isStatic(c.getModifiers())) {
                wrong("rule 1: class " + c);
            }
            for (Method m : c.getDeclaredMethods()) {
                if (publicNames.contains(m.getName())) {
                    wrong("rule 1: " + m + " bears a public name");
                }
            }
        }
        if (!Modifier.isFinal(ReservoirWall.class.getModifiers())) {
            wrong("rule 1: the class is not final");
        }
        return lines;
    }

    private static String typesOf(Class<?>[] types) {
        StringBuilder text = new StringBuilder();
        for (Class<?> type : types) {
            text.append(text.length() == 0 ? "" : ", ").append(type);
        }
        return text.toString();
    }

    private static void face() throws Exception {
        Set<String> promised = promised();
        Set<String> built = built();
        if (promised.size() != 6 + 1 + 82) {
            wrong("the document's face has " + promised.size() + " members");
        }
        for (String line : promised) {
            if (!built.contains(line)) {
                wrong("not built: " + line);
            }
        }
        for (String line : built) {
            if (!promised.contains(line)) {
                wrong("not promised: " + line);
            }
        }
    }

    private static final class Looker extends TreePathScanner<Void, Void> {
        final CompilationUnitTree unit;
        final Trees trees;
        final Map<String, Set<String>> calls = new HashMap<>();
        int classes;
        String method = "";

        Looker(CompilationUnitTree unit, Trees trees) {
            this.unit = unit;
            this.trees = trees;
        }

        String at(Tree tree) {
            return " at line " + unit.getLineMap().getLineNumber(trees.getSourcePositions().getStartPosition(unit, tree));
        }

        long linesOf(Tree tree) {
            return unit.getLineMap().getLineNumber(trees.getSourcePositions().getEndPosition(unit, tree))
                    - unit.getLineMap().getLineNumber(trees.getSourcePositions().getStartPosition(unit, tree)) + 1;
        }

        boolean isReal(Tree tree) {
            TypeMirror type = trees.getTypeMirror(new com.sun.source.util.TreePath(getCurrentPath(), tree));
            return type != null && (type.getKind() == TypeKind.DOUBLE || type.getKind() == TypeKind.FLOAT);
        }

        boolean isOfNumbers(Tree tree) {
            TypeMirror type = trees.getTypeMirror(new com.sun.source.util.TreePath(getCurrentPath(), tree));
            return type instanceof javax.lang.model.type.ArrayType array && array.getComponentType().getKind().isPrimitive();
        }

        @Override
        public Void scan(Tree tree, Void none) {
            if (tree != null && NEVER.contains(tree.getKind())) {
                wrong("rule 6: " + tree.getKind() + at(tree));
            }
            return super.scan(tree, none);
        }

        @Override
        public Void visitClass(ClassTree tree, Void none) {
            classes++;
            int fields = 0;
            for (Tree member : tree.getMembers()) {
                if (member instanceof VariableTree field) {
                    boolean isStatic = field.getModifiers().getFlags().contains(javax.lang.model.element.Modifier.STATIC);
                    fields += isStatic ? 0 : 1;
                    String type = field.getType().toString();
                    if (isStatic && !Set.of("int", "long", "boolean", "char", "String", "int[]").contains(type)) {
                        wrong("rule 5: static " + type + at(field));
                    }
                    if (isStatic && !field.getModifiers().getFlags().contains(javax.lang.model.element.Modifier.FINAL)) {
                        wrong("rule 5: not final" + at(field));
                    }
                }
            }
            if (fields > 20) {
                wrong("rule 11: " + fields + " fields" + at(tree));
            }
            return super.visitClass(tree, none);
        }

        @Override
        public Void visitMethod(MethodTree tree, Void none) {
            Element element = trees.getElement(getCurrentPath());
            method = element.getEnclosingElement() + "." + element;
            calls.putIfAbsent(method, new HashSet<>());
            if (linesOf(tree) > 60) {
                wrong("rule 11: " + linesOf(tree) + " lines in " + method);
            }
            if (tree.getParameters().size() > 7) {
                wrong("rule 11: too many parameters of " + method);
            }
            return super.visitMethod(tree, none);
        }

        private void called(ExecutableElement element, Tree tree) {
            String owner = element.getEnclosingElement().toString();
            String plain = owner.replaceAll("<.*>", "") + "." + element.getSimpleName();
            if (owner.startsWith("ReservoirWall")) {
                calls.computeIfAbsent(method, k -> new HashSet<>()).add(owner + "." + element);
            } else if (!LIBRARY.contains(plain) && !plain.equals("java.lang.Object.<init>") && !plain.equals("java.util.ArrayList.<init>")) {
                wrong("rule 4: " + plain + at(tree));
            }
        }

        @Override
        public Void visitMethodInvocation(MethodInvocationTree tree, Void none) {
            called((ExecutableElement) trees.getElement(getCurrentPath()), tree);
            if (tree.getMethodSelect().toString().equals("System.arraycopy") && !isOfNumbers(tree.getArguments().get(0))) {
                wrong("rule 4: objects are copied" + at(tree));
            }
            return super.visitMethodInvocation(tree, none);
        }

        @Override
        public Void visitNewClass(NewClassTree tree, Void none) {
            called((ExecutableElement) trees.getElement(getCurrentPath()), tree);
            if (tree.getClassBody() != null) {
                wrong("rule 2: an anonymous class" + at(tree));
            }
            return super.visitNewClass(tree, none);
        }

        @Override
        public Void visitBinary(BinaryTree tree, Void none) {
            if ((isReal(tree.getLeftOperand()) || isReal(tree.getRightOperand())) && tree.getKind() == Tree.Kind.REMAINDER) {
                wrong("rule 3: " + tree + at(tree));
            }
            return super.visitBinary(tree, none);
        }

        @Override
        public Void visitUnary(UnaryTree tree, Void none) {
            if (isReal(tree.getExpression()) && !(tree.getExpression() instanceof LiteralTree)) {
                wrong("rule 3: " + tree + at(tree));
            }
            return super.visitUnary(tree, none);
        }

        /** The longest chain of calls from a method on, going into no method twice. */
        int deep(String from, List<String> open) {
            if (open.contains(from)) {
                return 0;
            }
            open.add(from);
            int deepest = 0;
            for (String to : calls.getOrDefault(from, Set.of())) {
                deepest = Math.max(deepest, deep(to, open));
            }
            open.remove(open.size() - 1);
            return deepest + 1;
        }
    }

    private static void tree() throws Exception {
        JavaCompiler compiler = ToolProvider.getSystemJavaCompiler();
        try (StandardJavaFileManager files = compiler.getStandardFileManager(null, null, null)) {
            JavacTask task = (JavacTask) compiler.getTask(null, files, null, List.of("-proc:none"), null, files.getJavaFileObjects(SOURCE.toFile()));
            CompilationUnitTree unit = task.parse().iterator().next();
            task.analyze();
            Looker looker = new Looker(unit, Trees.instance(task));
            looker.scan(unit, null);
            if (looker.classes > 12) {
                wrong("rule 11: " + looker.classes + " classes");
            }
            for (String method : looker.calls.keySet()) {
                int deep = looker.deep(method, new ArrayList<>());
                if (deep > 8) {
                    wrong("rule 11: calls " + deep + " deep from " + method);
                }
            }
            for (var line : unit.getImports()) {
                if (!line.getQualifiedIdentifier().toString().equals("java.util.ArrayList")) {
                    wrong("rule 4: " + line);
                }
            }
        }
    }

    public static void main(String[] args) throws Exception {
        face();
        tree();
        if (wrong != 0) {
            System.out.println("LanguageTest: " + wrong + " rules are broken");
            System.exit(1);
        }
        System.out.println("LanguageTest: the face is as promised, the rules are kept");
    }
}
