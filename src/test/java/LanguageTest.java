import com.sun.source.tree.BinaryTree;
import com.sun.source.tree.ClassTree;
import com.sun.source.tree.CompilationUnitTree;
import com.sun.source.tree.DoWhileLoopTree;
import com.sun.source.tree.ForLoopTree;
import com.sun.source.tree.LineMap;
import com.sun.source.tree.LiteralTree;
import com.sun.source.tree.MemberSelectTree;
import com.sun.source.tree.MethodInvocationTree;
import com.sun.source.tree.MethodTree;
import com.sun.source.tree.Tree;
import com.sun.source.tree.VariableTree;
import com.sun.source.tree.WhileLoopTree;
import com.sun.source.util.JavacTask;
import com.sun.source.util.SourcePositions;
import com.sun.source.util.TreeScanner;
import com.sun.source.util.Trees;
import java.io.File;
import java.lang.reflect.Member;
import java.lang.reflect.Modifier;
import java.nio.file.Files;
import java.nio.file.Path;
import java.util.Arrays;
import java.util.HashMap;
import java.util.HashSet;
import java.util.List;
import java.util.Map;
import java.util.Set;
import java.util.TreeMap;
import java.util.TreeSet;
import javax.tools.JavaCompiler;
import javax.tools.StandardJavaFileManager;
import javax.tools.ToolProvider;

/** The face of the class, and the rules of LANGUAGE.md that can be read off its source. */
public final class LanguageTest {
    private static final String SOURCE = "src/main/java/HandkerchiefsDropped.java";
    private static final Check check = new Check("LanguageTest");
    private static final String[] FACE = {
        "int count(int)", "int court(int,int,int)", "int bench(int,int)", "int feed(int,int,int,int,int,int)",
        "int text()", "int force(int)", "int asks(int,int)", "int witness(int,int,int)", "int put(int,int,int)",
        "int told(int,int)", "int regard(int,int,int)", "int linen(int,int)", "int drop(int)", "int hour()",
        "int burn(int)", "int run(int,int)", "int when(int)", "int fate(int,int)", "int advise(int,int)",
        "int turn(int)", "int gallant(int,int)", "int cast(int,int)", "long mean(int)", "int judge(int)",
        "int kinds(int,int,int)", "int faces(int,int,int)", "int keens(int,int,int)", "int burnt(int)",
        "int laws(int)", "int film(int,int)", "int drawn(int,int)", "long odds(int,int,int,int)", "int image()",
        "int back()", "int sheet(int,int,int)", "int cell(int,int,int)", "int copy(int,int,int,int,int)",
        "int witnessesBy(int,int,int,int)", "int taken(int,int)"};
    /** What the source may call that it does not write itself. */
    private static final Set<String> LIBRARY = Set.of("Math.max", "Math.min", "Math.abs", "Math.floorMod",
        "Integer.bitCount", "System.arraycopy", "Arrays.fill", "Arrays.copyOf", "length", "charAt", "indexOf");
    private static final Set<String> NUMBERS =
        Set.of("int", "long", "short", "byte", "char", "boolean", "double", "float");
    /** Divisors that the lines ahead of them look at, or a condition in the same line. */
    private static final Set<String> LOOKED_AT = Set.of("small", "shared", "many", "(man % 2 == 0 ? 2 : 1)");
    private static final Set<Tree.Kind> BARRED = Set.of(Tree.Kind.THROW, Tree.Kind.TRY, Tree.Kind.CATCH,
        Tree.Kind.SYNCHRONIZED, Tree.Kind.ASSERT, Tree.Kind.LAMBDA_EXPRESSION, Tree.Kind.MEMBER_REFERENCE,
        Tree.Kind.ANNOTATION, Tree.Kind.SWITCH_EXPRESSION);

    public static void main(String[] args) throws Exception {
        face();
        signs();
        source();
        check.end();
    }

    private static void face() {
        Class<?> c = HandkerchiefsDropped.class;
        check.due("public final", c.getModifiers(), Modifier.PUBLIC | Modifier.FINAL);
        check.isTrue("no package", c.getPackageName().isEmpty());
        Set<String> publics = new TreeSet<>();
        Arrays.stream(c.getDeclaredMethods()).filter(LanguageTest::isSeen).forEach(m -> publics.add(
            m.getReturnType() + " " + m.getName() + "("
            + String.join(",", Arrays.stream(m.getParameterTypes()).map(Class::toString).toList()) + ")"));
        check.isTrue("methods " + publics, publics.equals(new TreeSet<>(Arrays.asList(FACE))));
        Set<String> fields = new TreeSet<>();
        Arrays.stream(c.getDeclaredFields()).filter(LanguageTest::isSeen).forEach(f -> fields.add(f.getName()));
        check.isTrue("constants " + fields, fields.equals(Set.of("NONE", "BAD", "STATE", "FULL", "NO")));
        check.due("constructors", c.getDeclaredConstructors().length, 1);
        check.isTrue("of no argument", c.getConstructors().length == 1
            && c.getConstructors()[0].getParameterCount() == 0);
        check.due("NONE", HandkerchiefsDropped.NONE, -1);
        check.due("BAD", HandkerchiefsDropped.BAD, -2);
        check.due("STATE", HandkerchiefsDropped.STATE, -3);
        check.due("FULL", HandkerchiefsDropped.FULL, -4);
        check.due("NO", HandkerchiefsDropped.NO, -4611686018427387904L);
    }

    private static boolean isSeen(Member m) {
        return !Modifier.isPrivate(m.getModifiers()) && !m.isSynthetic();
    }

    private static void signs() throws Exception {
        String source = Files.readString(Path.of(SOURCE));
        check.isTrue("signs are 1 to 127", source.chars().allMatch(c -> c >= 1 && c <= 127));
    }

    private static void source() throws Exception {
        JavaCompiler compiler = ToolProvider.getSystemJavaCompiler();
        try (StandardJavaFileManager files = compiler.getStandardFileManager(null, null, null)) {
            JavacTask task = (JavacTask) compiler.getTask(null, files, null, null, null,
                files.getJavaFileObjects(new File(SOURCE)));
            CompilationUnitTree unit = task.parse().iterator().next();
            check.isTrue("no package line", unit.getPackage() == null);
            unit.getImports().forEach(i -> check.isTrue("import " + i,
                Set.of("java.util.Arrays", "java.util.ArrayList", "java.util.List")
                    .contains(i.getQualifiedIdentifier().toString()) && !i.isStatic()));
            check.due("classes in the file", unit.getTypeDecls().size(), 1);
            Reader reader = new Reader(unit, Trees.instance(task).getSourcePositions());
            reader.scan(unit, null);
            reader.judge();
        }
    }

    /** Walks the source and keeps who calls whom. */
    private static final class Reader extends TreeScanner<Void, Void> {
        private final CompilationUnitTree unit;
        private final SourcePositions places;
        private final LineMap lines;
        private final Map<String, Set<String>> calls = new TreeMap<>();
        private final Set<String> publics = new HashSet<>();
        private final Set<String> privates = new HashSet<>();
        private final Set<String> owns = new HashSet<>();
        private final Set<String> types = new TreeSet<>();
        private String method = "";
        private String clazz = "";
        private int classes;

        Reader(CompilationUnitTree itsUnit, SourcePositions itsPlaces) {
            unit = itsUnit;
            places = itsPlaces;
            lines = itsUnit.getLineMap();
        }

        @Override public Void scan(Tree tree, Void none) {
            if (tree != null && BARRED.contains(tree.getKind())) {
                check.isTrue("barred: " + tree, false);
            }
            return super.scan(tree, none);
        }

        @Override public Void visitClass(ClassTree tree, Void none) {
            String outer = clazz;
            clazz = tree.getSimpleName().toString();
            classes++;
            owns.add(clazz);
            Set<javax.lang.model.element.Modifier> m = tree.getModifiers().getFlags();
            if (!outer.isEmpty()) {
                check.isTrue(clazz + " is private or package-visible, and static",
                    m.contains(javax.lang.model.element.Modifier.STATIC)
                    && !m.contains(javax.lang.model.element.Modifier.PUBLIC) && !clazz.isEmpty() && method.isEmpty());
            }
            int fields = 0;
            for (Tree member : tree.getMembers()) {
                check.isTrue("no block in " + clazz, member.getKind() != Tree.Kind.BLOCK);
                if (member instanceof VariableTree v) {
                    boolean fixed = v.getModifiers().getFlags().contains(javax.lang.model.element.Modifier.STATIC);
                    fields += fixed ? 0 : 1;
                    check.isTrue("static is final: " + v, !fixed
                        || v.getModifiers().getFlags().contains(javax.lang.model.element.Modifier.FINAL));
                    check.isTrue("constant type: " + v, !fixed
                        || Set.of("int", "long", "boolean", "char", "String", "int[]", "long[]", "char[]", "byte[]")
                            .contains(v.getType().toString()));
                }
            }
            check.isTrue("fields of " + clazz, fields <= 20);
            super.visitClass(tree, none);
            clazz = outer;
            return null;
        }

        @Override public Void visitMethod(MethodTree tree, Void none) {
            method = tree.getName().toString();
            long from = lines.getLineNumber(places.getStartPosition(unit, tree));
            long to = lines.getLineNumber(places.getEndPosition(unit, tree));
            check.isTrue("lines of " + method, to - from < 60);
            check.isTrue("parameters of " + method, tree.getParameters().size() <= 7);
            boolean isPublic = tree.getModifiers().getFlags().contains(javax.lang.model.element.Modifier.PUBLIC);
            if (clazz.equals("HandkerchiefsDropped")) {
                (isPublic ? publics : privates).add(method);
            } else {
                privates.add(method);
            }
            calls.computeIfAbsent(method, k -> new TreeSet<>());
            types.add(String.valueOf(tree.getReturnType()));
            super.visitMethod(tree, none);
            method = "";
            return null;
        }

        @Override public Void visitVariable(VariableTree tree, Void none) {
            types.add(tree.getType().toString());
            return super.visitVariable(tree, none);
        }

        @Override public Void visitForLoop(ForLoopTree tree, Void none) {
            boolean isBound = tree.getCondition() != null && !isTrue(tree.getCondition());
            check.isTrue("a loop's end can be seen: " + tree, isBound);
            return super.visitForLoop(tree, none);
        }

        @Override public Void visitWhileLoop(WhileLoopTree tree, Void none) {
            check.isTrue("a loop's end can be seen: " + tree, !isTrue(tree.getCondition()));
            return super.visitWhileLoop(tree, none);
        }

        @Override public Void visitDoWhileLoop(DoWhileLoopTree tree, Void none) {
            check.isTrue("a loop's end can be seen: " + tree, !isTrue(tree.getCondition()));
            return super.visitDoWhileLoop(tree, none);
        }

        private static boolean isTrue(Tree condition) {
            return condition.toString().replaceAll("[()]", "").equals("true");
        }

        @Override public Void visitMethodInvocation(MethodInvocationTree tree, Void none) {
            Tree select = tree.getMethodSelect();
            String whole = select.toString();
            String last = select instanceof MemberSelectTree s ? s.getIdentifier().toString() : whole;
            calls.get(method).add(LIBRARY.contains(whole) ? whole : last);
            return super.visitMethodInvocation(tree, none);
        }

        @Override public Void visitBinary(BinaryTree tree, Void none) {
            boolean joins = tree.getKind() == Tree.Kind.PLUS
                && (isString(tree.getLeftOperand()) || isString(tree.getRightOperand()));
            check.isTrue("no text is joined by +: " + tree, !joins);
            if (tree.getKind() == Tree.Kind.DIVIDE || tree.getKind() == Tree.Kind.REMAINDER) {
                String divisor = tree.getRightOperand().toString();
                check.isTrue("a divisor that is fixed or looked at: " + tree, divisor.matches("[1-9]\\d*L?|[A-Z]+")
                    || LOOKED_AT.contains(divisor));
            }
            return super.visitBinary(tree, none);
        }

        private static boolean isString(Tree tree) {
            return tree instanceof LiteralTree l && l.getValue() instanceof String;
        }

        void judge() {
            check.isTrue("classes " + classes, classes <= 12);
            for (String type : types) {
                check.isTrue("type " + type, isKnown(type));
            }
            privates.remove("<init>");
            for (String name : privates) {
                check.isTrue("private " + name + " bears no public name", !publics.contains(name));
            }
            for (Map.Entry<String, Set<String>> e : calls.entrySet()) {
                for (String called : e.getValue()) {
                    boolean own = calls.containsKey(called) || called.equals("super");
                    check.isTrue(e.getKey() + " calls " + called, own || LIBRARY.contains(called));
                }
            }
            for (String name : publics) {
                int deep = depth(name, new HashMap<>());
                check.isTrue(name + " goes " + deep + " deep", deep <= 8);
            }
        }

        /** Rule 3: numbers and their arrays, own classes and arrays of one dimension of these, String. */
        private boolean isKnown(String type) {
            String one = type.replace("[]", "");
            int dimensions = (type.length() - one.length()) / 2;
            boolean plain = NUMBERS.contains(one) && dimensions <= 2 || owns.contains(one) && dimensions <= 1;
            return plain || Set.of("void", "null", "String").contains(type);
        }

        /** The longest way of calls from a method on; methods that call one another count as one. */
        private int depth(String name, Map<String, Integer> known) {
            if (known.containsKey(name)) {
                return known.get(name);
            }
            List<String> around = calls.keySet().stream()
                .filter(other -> reaches(name, other) && reaches(other, name)).toList();
            List<String> together = around.isEmpty() ? List.of(name) : around;
            int deepest = 0;
            for (String member : together) {
                for (String called : calls.getOrDefault(member, Set.of())) {
                    if (!together.contains(called)) {
                        deepest = Math.max(deepest, depth(called, known));
                    }
                }
            }
            known.put(name, deepest + 1);
            return deepest + 1;
        }

        private boolean reaches(String from, String to) {
            Set<String> seen = new HashSet<>();
            Set<String> edge = new HashSet<>(calls.getOrDefault(from, Set.of()));
            while (!edge.isEmpty()) {
                seen.addAll(edge);
                Set<String> next = new HashSet<>();
                edge.forEach(e -> next.addAll(calls.getOrDefault(e, Set.of())));
                next.removeAll(seen);
                edge = next;
            }
            return seen.contains(to);
        }
    }
}
