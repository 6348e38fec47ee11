import com.sun.source.tree.*;
import com.sun.source.util.JavacTask;
import com.sun.source.util.SourcePositions;
import com.sun.source.util.TreePath;
import com.sun.source.util.TreePathScanner;
import com.sun.source.util.Trees;
import java.io.File;
import java.io.IOException;
import java.lang.reflect.Field;
import java.lang.reflect.Method;
import java.lang.reflect.Modifier;
import java.nio.file.Files;
import java.util.ArrayList;
import java.util.Arrays;
import java.util.HashMap;
import java.util.List;
import java.util.Map;
import java.util.Set;
import java.util.TreeSet;
import java.util.regex.Matcher;
import java.util.regex.Pattern;
import javax.lang.model.element.Element;
import javax.lang.model.element.ElementKind;
import javax.lang.model.element.ExecutableElement;
import javax.tools.JavaCompiler;
import javax.tools.StandardJavaFileManager;
import javax.tools.ToolProvider;

/** The rules of LANGUAGE.md that a tree of the source can show. */
public final class LanguageTest {
    private static final File SOURCE = new File("src/main/java/ShortEnough.java");
    private static final File DOCUMENT = new File("../shared/DOC.md");
    /** Rule 4. */
    private static final Pattern LIBRARY = Pattern.compile(
        "java.lang.String.(length|charAt|isEmpty|equals|indexOf|substring|toCharArray)"
        + "|java.lang.(StringBuilder|AbstractStringBuilder).(append|charAt|setCharAt|setLength|deleteCharAt|reverse|length|toString)"
        + "|java.util.(ArrayList<E>|List<E>).(add|get|set|remove|size|isEmpty|clear|of)"
        + "|java.lang.(Integer|Long|Math).(?!\\w*Exact$)\\w+"
        + "|java.lang.System.arraycopy|java.util.Arrays.(copyOf|copyOfRange|fill)|Array.clone");
    /** Rule 6, and lambdas and method references of rule 2. */
    private static final Set<Tree.Kind> BANNED = Set.of(Tree.Kind.THROW, Tree.Kind.TRY, Tree.Kind.CATCH,
        Tree.Kind.SYNCHRONIZED, Tree.Kind.ASSERT, Tree.Kind.LAMBDA_EXPRESSION, Tree.Kind.MEMBER_REFERENCE,
        Tree.Kind.PACKAGE);
    private static final Set<String> CONSTANTS = Set.of("int", "long", "boolean", "char", "String",
        "int[]", "long[]", "char[]", "byte[]");
    private static final String FACE = "feed(int,int,int,int,int):int end(int):boolean task():int fault(int):int "
        + "has(int):int letter(int,boolean,int):int format(int,int):int number(int,int):int told(int,int):long "
        + "range(int,boolean):long uses(int):int depth(int):int chosen(int):int choose(int,int):int cost():int "
        + "casts():int fails():int why():int error(int):long slack(int):long widest(int):int blame(int,int):long "
        + "cheapest(int):int passing():int halves(int):int single(int):int take(int):int front(int,int,int):long "
        + "least(int,int):long certificate(int):int check():boolean broken(int):int trials(int,int):long "
        + "trial(int,boolean):long seed(int):boolean status(int):int";

    private final Due due = new Due("LanguageTest");
    private final Map<String, Set<String>> calls = new HashMap<>();
    private final Set<String> faceNames = new TreeSet<>();
    private Trees trees;
    private CompilationUnitTree unit;
    private int classes;

    public static void main(String[] args) throws IOException {
        LanguageTest test = new LanguageTest();
        test.face();
        test.faceAsTold();
        test.source();
        test.depths();
        test.due.end();
    }

    /** Rule 1: just the face of the document. */
    private void face() {
        Set<String> want = new TreeSet<>(Arrays.asList(FACE.split(" ")));
        Set<String> got = new TreeSet<>();
        for (Method m : ShortEnough.class.getDeclaredMethods()) {
            if (!Modifier.isPrivate(m.getModifiers())) {
                got.add(told(m));
                due.is(m + " is public, no static", Modifier.isPublic(m.getModifiers())
                    && !Modifier.isStatic(m.getModifiers()), true);
            }
        }
        got.addAll(want);
        due.is("methods of the face: " + got, got.size(), want.size());
        for (String method : want) {
            faceNames.add(method.substring(0, method.indexOf('(')));
            long many = Arrays.stream(ShortEnough.class.getMethods()).filter(m -> told(m).equals(method)).count();
            due.is(method, many, 1);
        }
        int open = 0;
        for (Field f : ShortEnough.class.getDeclaredFields()) {
            open += Modifier.isPrivate(f.getModifiers()) ? 0 : 1;
        }
        due.is("NONE and NOTHING alone are no private fields", open, 2);
        due.is("constructors", ShortEnough.class.getDeclaredConstructors().length, 1);
        due.is("public final", ShortEnough.class.getModifiers(), Modifier.PUBLIC | Modifier.FINAL);
    }

    /** The face above, and the constants, are those of the document's code block. */
    private void faceAsTold() throws IOException {
        if (!DOCUMENT.canRead()) {
            return;
        }
        String text = Files.readString(DOCUMENT.toPath()).replaceAll("(?s)^.*?```java\n|```.*$", "");
        List<String> methods = new ArrayList<>();
        Matcher method = Pattern.compile("public (int|long|boolean) (\\w+)\\((.*)\\);").matcher(text);
        while (method.find()) {
            methods.add(method.group(2) + "(" + method.group(3).replaceAll(" \\w+(, |$)", ",").replaceAll(",$", "")
                + "):" + method.group(1));
        }
        due.is("the document's face: " + methods, String.join(" ", methods).equals(FACE), true);
        String lines = "public static final int NONE = " + ShortEnough.NONE + ";\n"
            + "    public static final long NOTHING = " + ShortEnough.NOTHING + "L;\n    public ShortEnough();\n";
        due.is("the document's constants", text.contains(lines), true);
        due.is("lines of the face", text.lines().filter(line -> line.endsWith(";")).count(), methods.size() + 3);
    }

    private static String told(Method m) {
        List<String> types = new ArrayList<>();
        for (Class<?> type : m.getParameterTypes()) {
            types.add(type.getName());
        }
        return m.getName() + "(" + String.join(",", types) + "):" + m.getReturnType().getName();
    }

    private void source() throws IOException {
        JavaCompiler compiler = ToolProvider.getSystemJavaCompiler();
        try (StandardJavaFileManager files = compiler.getStandardFileManager(null, null, null)) {
            JavacTask task = (JavacTask) compiler.getTask(null, files, null, List.of("-proc:none"), null,
                files.getJavaFileObjects(SOURCE));
            unit = task.parse().iterator().next();
            task.analyze();
            trees = Trees.instance(task);
            new Rules().scan(unit, null);
        }
        due.is("some twelve classes", classes <= 12, true);
    }

    private int lines(Tree tree) {
        SourcePositions positions = trees.getSourcePositions();
        LineMap map = unit.getLineMap();
        return (int) (map.getLineNumber(positions.getEndPosition(unit, tree))
            - map.getLineNumber(positions.getStartPosition(unit, tree)) + 1);
    }

    /** Rule 11: calls go eight deep at most, those of the library too; there is no recursion. */
    private void depths() {
        for (String method : calls.keySet()) {
            int depth = depth(method, 1);
            due.is(method + " goes " + depth + " deep", depth <= 8, true);
        }
    }

    private int depth(String method, int level) {
        int deepest = 1;
        if (level > 30) {
            return 30;
        }
        for (String called : calls.getOrDefault(method, Set.of())) {
            deepest = Math.max(deepest, 1 + depth(called, level + 1));
        }
        return deepest;
    }

    private final class Rules extends TreePathScanner<Void, Void> {
        private String method = "";
        private String body = "";

        @Override
        public Void scan(Tree tree, Void none) {
            if (tree != null) {
                due.is(tree.getKind() + " at " + tree, BANNED.contains(tree.getKind()), false);
            }
            return super.scan(tree, none);
        }

        @Override
        public Void visitClass(ClassTree tree, Void none) {
            classes++;
            boolean top = getCurrentPath().getParentPath().getLeaf() == unit;
            boolean nested = getCurrentPath().getParentPath().getLeaf() instanceof ClassTree;
            due.is(tree.getSimpleName() + " is a class of the file or a static one in it", top || nested
                && tree.getModifiers().getFlags().contains(javax.lang.model.element.Modifier.STATIC), true);
            int fields = 0;
            for (Tree member : tree.getMembers()) {
                due.is("no initialiser block", member instanceof BlockTree, false);
                boolean isStatic = member instanceof VariableTree v
                    && v.getModifiers().getFlags().contains(javax.lang.model.element.Modifier.STATIC);
                if (isStatic) {
                    VariableTree v = (VariableTree) member;
                    due.is(v.getName() + " is final", v.getModifiers().getFlags()
                        .contains(javax.lang.model.element.Modifier.FINAL), true);
                    due.is(v.getName() + " is a constant",
                        CONSTANTS.contains(v.getType().toString()), true);
                }
                fields += member instanceof VariableTree && !isStatic ? 1 : 0;
            }
            due.is(tree.getSimpleName() + " has " + fields + " fields", fields <= 20, true);
            return super.visitClass(tree, none);
        }

        @Override
        public Void visitMethod(MethodTree tree, Void none) {
            String before = method;
            String bodyBefore = body;
            Element element = trees.getElement(getCurrentPath());
            method = name(element);
            body = "" + tree.getBody();
            calls.putIfAbsent(method, new TreeSet<>());
            boolean isFace = tree.getModifiers().getFlags().contains(javax.lang.model.element.Modifier.PUBLIC);
            due.is(method + " is short", lines(tree) <= 60, true);
            due.is(method + " has few parameters", tree.getParameters().size() <= 7, true);
            due.is(method + " bears no name of the face",
                !isFace && faceNames.contains(tree.getName().toString()), false);
            super.visitMethod(tree, none);
            method = before;
            body = bodyBefore;
            return null;
        }

        @Override
        public Void visitMethodInvocation(MethodInvocationTree tree, Void none) {
            Element element = trees.getElement(new TreePath(getCurrentPath(), tree.getMethodSelect()));
            String called = name(element);
            boolean own = called.startsWith("ShortEnough");
            boolean isSuper = called.endsWith(".<init>");
            due.is(called + " is in the library's list", own || isSuper || LIBRARY.matcher(called).matches(), true);
            if (called.matches("java.lang.Math.floor(Div|Mod)")) {
                isLookedAt(tree.getArguments().get(1));
            }
            if (!isSuper) {
                calls.get(method).add(called);
            }
            return super.visitMethodInvocation(tree, none);
        }

        /** Rule 4 lists functions of the library, no constants. */
        @Override
        public Void visitMemberSelect(MemberSelectTree tree, Void none) {
            Element element = trees.getElement(getCurrentPath());
            boolean isField = element != null && element.getKind() == ElementKind.FIELD;
            boolean isLength = isField && tree.getIdentifier().contentEquals("length");
            due.is(tree + " is no constant of the library",
                !isField || isLength || name(element).startsWith("ShortEnough"), true);
            return super.visitMemberSelect(tree, none);
        }

        @Override
        public Void visitNewClass(NewClassTree tree, Void none) {
            due.is("no class without a name", tree.getClassBody() != null, false);
            return super.visitNewClass(tree, none);
        }

        @Override
        public Void visitBinary(BinaryTree tree, Void none) {
            String type = trees.getTypeMirror(getCurrentPath()).toString();
            due.is("no joined text: " + tree, type.contains("String"), false);
            if (tree.getKind() == Tree.Kind.DIVIDE || tree.getKind() == Tree.Kind.REMAINDER) {
                isLookedAt(tree.getRightOperand());
            }
            if (tree.getKind() == Tree.Kind.EQUAL_TO || tree.getKind() == Tree.Kind.NOT_EQUAL_TO) {
                due.is("no == of texts, of Integers: " + tree, isBoxed(tree.getLeftOperand())
                    && isBoxed(tree.getRightOperand()), false);
            }
            return super.visitBinary(tree, none);
        }

        @Override
        public Void visitCompoundAssignment(CompoundAssignmentTree tree, Void none) {
            if (tree.getKind() == Tree.Kind.DIVIDE_ASSIGNMENT || tree.getKind() == Tree.Kind.REMAINDER_ASSIGNMENT) {
                isLookedAt(tree.getExpression());
            }
            return super.visitCompoundAssignment(tree, none);
        }

        /** Rule 9: a counter against a bound. */
        @Override
        public Void visitForLoop(ForLoopTree tree, Void none) {
            due.is("a bound in " + tree.getCondition(), ("" + tree.getCondition()).matches("(?s).*[<>].*"), true);
            return super.visitForLoop(tree, none);
        }

        @Override
        public Void visitWhileLoop(WhileLoopTree tree, Void none) {
            due.is("a bound in " + tree.getCondition(), tree.getCondition().toString().matches("(?s).*[<>].*"), true);
            return super.visitWhileLoop(tree, none);
        }

        @Override
        public Void visitImport(ImportTree tree, Void none) {
            due.is(tree + " is in the library's list", tree.getQualifiedIdentifier().toString()
                .matches("java.util.(ArrayList|List|Arrays|Iterator)"), true);
            return super.visitImport(tree, none);
        }

        private boolean isBoxed(Tree operand) {
            String type = "" + trees.getTypeMirror(new TreePath(getCurrentPath(), operand));
            return type.equals("java.lang.String") || type.equals("java.lang.Integer");
        }

        /** Rule 7: each name in a divisor is compared with something in the same method. */
        private void isLookedAt(ExpressionTree divisor) {
            for (String part : divisor.toString().split("[*()\\s]+")) {
                boolean constant = part.matches("[0-9]+L?|[A-Z_]+|");
                String name = Pattern.quote(part);
                boolean compared = Pattern.compile("(^|[^\\w.])" + name + " (==|!=|<|>|<=|>=) ").matcher(body).find();
                due.is("a divisor is a constant or was looked at: " + divisor + " in " + method, constant || compared, true);
            }
        }

        private String name(Element element) {
            boolean isCall = element.getKind() == ElementKind.METHOD || element.getKind() == ElementKind.CONSTRUCTOR;
            return element.getEnclosingElement() + "." + (isCall
                ? ((ExecutableElement) element).getSimpleName() : element.getSimpleName());
        }
    }
}
