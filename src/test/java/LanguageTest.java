import com.sun.source.tree.AssertTree;
import com.sun.source.tree.BinaryTree;
import com.sun.source.tree.BlockTree;
import com.sun.source.tree.ClassTree;
import com.sun.source.tree.CompilationUnitTree;
import com.sun.source.tree.LambdaExpressionTree;
import com.sun.source.tree.MemberReferenceTree;
import com.sun.source.tree.MethodInvocationTree;
import com.sun.source.tree.MethodTree;
import com.sun.source.tree.NewClassTree;
import com.sun.source.tree.SynchronizedTree;
import com.sun.source.tree.ThrowTree;
import com.sun.source.tree.Tree;
import com.sun.source.tree.TryTree;
import com.sun.source.tree.TypeCastTree;
import com.sun.source.tree.VariableTree;
import com.sun.source.util.JavacTask;
import com.sun.source.util.SourcePositions;
import com.sun.source.util.TreePathScanner;
import com.sun.source.util.Trees;
import java.io.IOException;
import java.lang.reflect.Field;
import java.lang.reflect.Method;
import java.lang.reflect.Modifier;
import java.nio.file.Files;
import java.nio.file.Path;
import java.util.ArrayList;
import java.util.HashMap;
import java.util.HashSet;
import java.util.LinkedHashMap;
import java.util.List;
import java.util.Map;
import java.util.Set;
import java.util.TreeSet;
import javax.lang.model.element.Element;
import javax.lang.model.element.ElementKind;
import javax.lang.model.element.ExecutableElement;
import javax.lang.model.element.TypeElement;
import javax.lang.model.type.TypeMirror;
import javax.tools.JavaCompiler;
import javax.tools.StandardJavaFileManager;
import javax.tools.ToolProvider;

/** Holds the source against those rules of LANGUAGE.md that can be seen in it. */
public final class LanguageTest {
    private static final Path SOURCE = Path.of("src/main/java/LongLine.java");
    private static final Path DOCUMENT = Path.of("../shared/DOC.md");
    private static final Set<String> LIBRARY = Set.of("java.lang.String.length", "java.lang.String.charAt",
        "java.lang.String.indexOf", "java.lang.Math.max", "java.lang.Math.min", "java.lang.Integer.bitCount");
    private static final Set<String> TYPES = Set.of("int", "long", "boolean", "char", "byte", "int[]", "long[]",
        "int[][]", "java.lang.String", "void");
    private static int wrong;

    private static void check(boolean holds, String rule) {
        if (!holds) {
            wrong++;
            System.out.println("not kept: " + rule);
        }
    }

    private static void checkFace() throws IOException {
        Set<String> due = new TreeSet<>();
        boolean inside = false;
        for (String line : Files.readAllLines(DOCUMENT)) {
            if (line.startsWith("```")) {
                inside = line.equals("```java");
            } else if (inside && line.trim().startsWith("public ") && line.trim().endsWith(";")) {
                due.add(withoutNames(line.trim()));
            }
        }
        Set<String> has = new TreeSet<>();
        for (Method m : LongLine.class.getDeclaredMethods()) {
            if (!Modifier.isPrivate(m.getModifiers())) {
                StringBuilder b = new StringBuilder(Modifier.toString(m.getModifiers()) + " " + m.getReturnType()
                    + " " + m.getName() + "(");
                for (Class<?> c : m.getParameterTypes()) {
                    b.append(b.charAt(b.length() - 1) == '(' ? "" : ",").append(c);
                }
                has.add(b + ")");
            }
        }
        for (Field f : LongLine.class.getDeclaredFields()) {
            if (!Modifier.isPrivate(f.getModifiers())) {
                has.add(Modifier.toString(f.getModifiers()) + " " + f.getType() + " " + f.getName());
            }
        }
        has.add("public LongLine()");
        check(due.size() > 40 && due.equals(has), "1, the face: " + due + " / " + has);
        check(LongLine.class.getDeclaredConstructors().length == 1, "1, one constructor");
        check(Modifier.isFinal(LongLine.class.getModifiers()), "1, final");
    }

    private static String withoutNames(String line) {
        String text = line.substring(0, line.length() - 1).replaceAll(" = .*", "");
        int open = text.indexOf('(');
        if (open < 0) {
            return text;
        }
        return text.substring(0, open) + text.substring(open).replaceAll("(int|boolean) \\w+", "$1").replace(", ", ",");
    }

    /** Walks the whole tree once. */
    private static final class Walk extends TreePathScanner<Void, Void> {
        private final Trees trees;
        private final CompilationUnitTree unit;
        private final SourcePositions places;
        private final Map<Element, Set<Element>> calls = new LinkedHashMap<>();
        private final Set<String> publicNames = new HashSet<>();
        private final Set<String> otherNames = new HashSet<>();
        private Element method;
        private int classes;

        Walk(Trees trees, CompilationUnitTree unit) {
            this.trees = trees;
            this.unit = unit;
            this.places = trees.getSourcePositions();
        }

        private String at(Tree tree) {
            return " (line " + unit.getLineMap().getLineNumber(places.getStartPosition(unit, tree)) + ")";
        }

        private boolean isOwn(Element e) {
            Element outer = e;
            while (outer.getEnclosingElement() != null && outer.getEnclosingElement().getKind() != ElementKind.PACKAGE) {
                outer = outer.getEnclosingElement();
            }
            return outer.getSimpleName().contentEquals("LongLine");
        }

        @Override
        public Void visitClass(ClassTree tree, Void v) {
            classes++;
            int fields = 0;
            for (Tree member : tree.getMembers()) {
                if (member instanceof VariableTree) {
                    VariableTree field = (VariableTree) member;
                    boolean isStatic = field.getModifiers().getFlags().contains(javax.lang.model.element.Modifier.STATIC);
                    fields += isStatic ? 0 : 1;
                    check(!isStatic || field.getModifiers().getFlags().contains(javax.lang.model.element.Modifier.FINAL),
                        "5, static fields are final" + at(member));
                }
                check(!(member instanceof BlockTree), "5, no initialiser block" + at(member));
            }
            check(fields <= 20, "11, fields of " + tree.getSimpleName() + ": " + fields);
            boolean nested = getCurrentPath().getParentPath().getLeaf() instanceof ClassTree;
            boolean isStatic = tree.getModifiers().getFlags().contains(javax.lang.model.element.Modifier.STATIC);
            check(isStatic == nested && method == null, "2, classes inside are static" + at(tree));
            return super.visitClass(tree, v);
        }

        @Override
        public Void visitMethod(MethodTree tree, Void v) {
            Element before = method;
            method = trees.getElement(getCurrentPath());
            calls.putIfAbsent(method, new HashSet<>());
            long from = unit.getLineMap().getLineNumber(places.getStartPosition(unit, tree));
            long to = unit.getLineMap().getLineNumber(Math.max(0, places.getEndPosition(unit, tree)));
            check(to - from <= 60, "11, methods stay short" + at(tree));
            check(tree.getParameters().size() <= 7, "11, parameters" + at(tree));
            if (method.getKind() == ElementKind.METHOD) {
                boolean isPublic = method.getModifiers().contains(javax.lang.model.element.Modifier.PUBLIC);
                (isPublic ? publicNames : otherNames).add(tree.getName().toString());
            }
            super.visitMethod(tree, v);
            method = before;
            return null;
        }

        @Override
        public Void visitMethodInvocation(MethodInvocationTree tree, Void v) {
            Element called = trees.getElement(getCurrentPath());
            if (called instanceof ExecutableElement && isOwn(called)) {
                if (method != null) {
                    calls.get(method).add(called);
                }
            } else if (!called.getSimpleName().contentEquals("<init>")) {
                String name = ((TypeElement) called.getEnclosingElement()).getQualifiedName() + "." + called.getSimpleName();
                check(LIBRARY.contains(name), "4, the library: " + name + at(tree));
            }
            return super.visitMethodInvocation(tree, v);
        }

        @Override
        public Void visitNewClass(NewClassTree tree, Void v) {
            check(tree.getClassBody() == null, "2, no anonymous class" + at(tree));
            Element made = trees.getElement(getCurrentPath());
            check(isOwn(made), "4, objects of own classes" + at(tree));
            if (method != null) {
                calls.get(method).add(made);
            }
            return super.visitNewClass(tree, v);
        }

        @Override
        public Void visitVariable(VariableTree tree, Void v) {
            TypeMirror type = trees.getTypeMirror(getCurrentPath());
            String name = type.toString();
            check(TYPES.contains(name) || name.startsWith("LongLine."), "3, types: " + name + at(tree));
            return super.visitVariable(tree, v);
        }

        @Override
        public Void visitBinary(BinaryTree tree, Void v) {
            TypeMirror type = trees.getTypeMirror(getCurrentPath());
            check(!type.toString().equals("java.lang.String"), "10, texts are not joined by +" + at(tree));
            return super.visitBinary(tree, v);
        }

        @Override
        public Void visitTypeCast(TypeCastTree tree, Void v) {
            check(tree.getType().getKind() == Tree.Kind.PRIMITIVE_TYPE, "6, casts" + at(tree));
            return super.visitTypeCast(tree, v);
        }

        @Override
        public Void visitThrow(ThrowTree tree, Void v) {
            check(false, "6, no throw" + at(tree));
            return super.visitThrow(tree, v);
        }

        @Override
        public Void visitTry(TryTree tree, Void v) {
            check(false, "6, no try" + at(tree));
            return super.visitTry(tree, v);
        }

        @Override
        public Void visitSynchronized(SynchronizedTree tree, Void v) {
            check(false, "6, no synchronized" + at(tree));
            return super.visitSynchronized(tree, v);
        }

        @Override
        public Void visitAssert(AssertTree tree, Void v) {
            check(false, "6, no assert" + at(tree));
            return super.visitAssert(tree, v);
        }

        @Override
        public Void visitLambdaExpression(LambdaExpressionTree tree, Void v) {
            check(false, "2, no lambda" + at(tree));
            return super.visitLambdaExpression(tree, v);
        }

        @Override
        public Void visitMemberReference(MemberReferenceTree tree, Void v) {
            check(false, "2, no method reference" + at(tree));
            return super.visitMemberReference(tree, v);
        }

        void finish() {
            check(classes <= 12, "11, classes: " + classes);
            otherNames.retainAll(publicNames);
            check(otherNames.isEmpty(), "1, names of public methods: " + otherNames);
            Map<Element, Integer> deep = new HashMap<>();
            for (Element m : calls.keySet()) {
                int depth = depthOf(m, deep);
                check(depth <= 8, "11, calls go at most eight deep: " + m + " " + depth);
            }
        }

        private boolean reaches(Element from, Element to) {
            Set<Element> seen = new HashSet<>();
            List<Element> open = new ArrayList<>(calls.getOrDefault(from, Set.of()));
            while (!open.isEmpty()) {
                Element next = open.remove(open.size() - 1);
                if (next.equals(to)) {
                    return true;
                }
                if (seen.add(next)) {
                    open.addAll(calls.getOrDefault(next, Set.of()));
                }
            }
            return false;
        }

        /** How many calls stand open at once, those that call one another counted as one. */
        private int depthOf(Element m, Map<Element, Integer> deep) {
            Integer known = deep.get(m);
            if (known != null) {
                return known;
            }
            Set<Element> round = new HashSet<>(Set.of(m));
            for (Element other : calls.keySet()) {
                if (reaches(m, other) && reaches(other, m)) {
                    round.add(other);
                }
            }
            int deepest = 0;
            for (Element one : round) {
                for (Element called : calls.getOrDefault(one, Set.of())) {
                    if (!round.contains(called)) {
                        deepest = Math.max(deepest, depthOf(called, deep));
                    }
                }
            }
            for (Element one : round) {
                deep.put(one, deepest + 1);
            }
            return deepest + 1;
        }
    }

    public static void main(String[] args) throws IOException {
        checkFace();
        String source = Files.readString(SOURCE);
        check(!source.contains("import ") && !source.contains("package "), "no package and no import");
        for (int i = 0; i < source.length(); i++) {
            check(source.charAt(i) < 127, "4, signs up to 127");
        }
        JavaCompiler compiler = ToolProvider.getSystemJavaCompiler();
        try (StandardJavaFileManager files = compiler.getStandardFileManager(null, null, null)) {
            JavacTask task = (JavacTask) compiler.getTask(null, files, null, List.of("-proc:none"), null,
                files.getJavaFileObjects(SOURCE));
            CompilationUnitTree unit = task.parse().iterator().next();
            task.analyze();
            Walk walk = new Walk(Trees.instance(task), unit);
            walk.scan(unit, null);
            walk.finish();
        }
        System.out.println(wrong == 0 ? "the rules of the language are kept" : wrong + " rules are not kept");
        if (wrong != 0) {
            System.exit(1);
        }
    }
}
