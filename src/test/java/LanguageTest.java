import com.sun.source.tree.AssertTree;
import com.sun.source.tree.BinaryTree;
import com.sun.source.tree.ClassTree;
import com.sun.source.tree.CompilationUnitTree;
import com.sun.source.tree.ImportTree;
import com.sun.source.tree.LambdaExpressionTree;
import com.sun.source.tree.MemberReferenceTree;
import com.sun.source.tree.MethodInvocationTree;
import com.sun.source.tree.MethodTree;
import com.sun.source.tree.NewArrayTree;
import com.sun.source.tree.NewClassTree;
import com.sun.source.tree.SynchronizedTree;
import com.sun.source.tree.ThrowTree;
import com.sun.source.tree.Tree;
import com.sun.source.tree.TryTree;
import com.sun.source.tree.TypeCastTree;
import com.sun.source.tree.VariableTree;
import com.sun.source.util.JavacTask;
import com.sun.source.util.SourcePositions;
import com.sun.source.util.TreePathScanner;
import com.sun.source.util.Trees;
import java.io.File;
import java.lang.reflect.Array;
import java.lang.reflect.Field;
import java.lang.reflect.Member;
import java.lang.reflect.Method;
import java.lang.reflect.Modifier;
import java.nio.file.Files;
import java.nio.file.Path;
import java.util.Collections;
import java.util.HashMap;
import java.util.HashSet;
import java.util.IdentityHashMap;
import java.util.List;
import java.util.Map;
import java.util.Set;
import java.util.TreeSet;
import java.util.regex.Matcher;
import java.util.regex.Pattern;
import javax.lang.model.element.Element;
import javax.lang.model.element.ElementKind;
import javax.tools.JavaCompiler;
import javax.tools.StandardJavaFileManager;
import javax.tools.ToolProvider;

/**
 * The face of the class, and the rules of LANGUAGE.md that can be read off the source. Its arguments are the source and
 * the document.
 */
final class LanguageTest extends TreePathScanner<Void, Void> {
    private static final String FACE = "begin() carryOut() cheapest(int) count(int) dry() fault() flood(int,int,int) leap() "
        + "lostBy(int,int) meeting(int,int) ofRun(int) ofStone(int,int,int) ofWalker(int,int) put(long) restore(int) "
        + "run() runWith(int,int,int) save(int) set(int,int) stone(int,int,int) undo() walking(int) wipe()";
    private static final String CONSTANTS = "BAD_TEXT=-3 BAD_VALUE=-2 HIGH=1 LOW=0 NONE=-6 NOT_POSSIBLE=-5 NO_SUCH=-1 "
        + "ORDER=3 SEARCH=2 TOO_MANY=-4";
    // rule 4 of LANGUAGE.md
    private static final Pattern LIBRARY = Pattern.compile("java\\.lang\\.Object\\.<init>|java\\.lang\\.System\\.arraycopy"
        + "|java\\.lang\\.(Math|Integer|Long)\\.(?!.*Exact$)[a-z]\\w*"
        + "|java\\.lang\\.String\\.(length|charAt|isEmpty|equals|indexOf|substring|toCharArray|<init>)"
        + "|java\\.lang\\.StringBuilder\\.(<init>|append|charAt|setCharAt|setLength|deleteCharAt|reverse|length|toString)"
        + "|java\\.util\\.(ArrayList|List)\\.(<init>|add|get|set|remove|size|isEmpty|clear|of)"
        + "|java\\.util\\.Arrays\\.(copyOf|copyOfRange|fill)");

    private final Trees trees;
    private final SourcePositions positions;
    private final CompilationUnitTree unit;
    private final Map<String, Set<String>> calls = new HashMap<>();
    private final Set<String> publicNames = new HashSet<>();
    private String method = "";
    private int classes = 0;

    private LanguageTest(Trees trees, CompilationUnitTree unit) {
        this.trees = trees;
        this.unit = unit;
        positions = trees.getSourcePositions();
        for (Method m : LeapStones.class.getDeclaredMethods()) {
            if (Modifier.isPublic(m.getModifiers())) {
                publicNames.add(m.getName());
            }
        }
    }

    public static void main(String[] args) throws Exception {
        face();
        if (args.length > 1 && Files.exists(Path.of(args[1]))) {
            faceOfTheDocument(Files.readString(Path.of(args[1])));
        }
        room();
        JavaCompiler compiler = ToolProvider.getSystemJavaCompiler();
        try (StandardJavaFileManager files = compiler.getStandardFileManager(null, null, null)) {
            JavacTask task = (JavacTask) compiler.getTask(null, files, null, List.of("-proc:none"), null,
                files.getJavaFileObjects(new File(args[0])));
            for (CompilationUnitTree unit : task.parse()) {
                task.analyze();
                LanguageTest test = new LanguageTest(Trees.instance(task), unit);
                test.scan(unit, null);
                test.depths();
            }
        }
        Checks.close("LanguageTest");
    }

    private static void face() throws IllegalAccessException {
        Class<?> c = LeapStones.class;
        Checks.isTrue("public and final", Modifier.isPublic(c.getModifiers()) && Modifier.isFinal(c.getModifiers()));
        Checks.due("one constructor", c.getDeclaredConstructors().length, 1);
        Checks.isTrue("it is public", Modifier.isPublic(c.getDeclaredConstructors()[0].getModifiers()));
        Checks.due("it takes nothing", c.getDeclaredConstructors()[0].getParameterCount(), 0);
        Set<String> methods = new TreeSet<>();
        for (Method m : c.getDeclaredMethods()) {
            isPublicOrPrivate(m);
            if (Modifier.isPublic(m.getModifiers())) {
                StringBuilder types = new StringBuilder();
                for (Class<?> type : m.getParameterTypes()) {
                    types.append(types.length() == 0 ? "" : ",").append(type);
                }
                methods.add(m.getName() + "(" + types + ")");
                Checks.isTrue(m.getName() + " answers an int", m.getReturnType() == int.class);
            }
        }
        Checks.isTrue("the methods are " + methods, String.join(" ", methods).equals(FACE));
        Set<String> constants = new TreeSet<>();
        for (Field f : c.getDeclaredFields()) {
            isPublicOrPrivate(f);
            if (Modifier.isPublic(f.getModifiers())) {
                constants.add(f.getName() + "=" + f.getInt(null));
            }
        }
        Checks.isTrue("the constants are " + constants, String.join(" ", constants).equals(CONSTANTS));
    }

    /** The document shows no other face than the one to which face() compares. */
    private static void faceOfTheDocument(String document) {
        Matcher block = Pattern.compile("## The public face\\s+```java\\s+(.*?)```", Pattern.DOTALL).matcher(document);
        Checks.isTrue("the document has a face", block.find());
        String face = block.group(1);
        Set<String> methods = new TreeSet<>();
        Matcher method = Pattern.compile("public int (\\w+)\\(([^)]*)\\);").matcher(face);
        while (method.find()) {
            String types = method.group(2).replaceAll(" \\w+(,|$)", "$1").replace(", ", ",");
            methods.add(method.group(1) + "(" + types + ")");
        }
        Checks.isTrue("the document's methods are " + methods, String.join(" ", methods).equals(FACE));
        Set<String> constants = new TreeSet<>();
        Matcher constant = Pattern.compile("([A-Z_]+) = (-?\\d+)").matcher(face);
        while (constant.find()) {
            constants.add(constant.group(1) + "=" + constant.group(2));
        }
        Checks.isTrue("the document's constants are " + constants, String.join(" ", constants).equals(CONSTANTS));
        int others = 4;
        Checks.due("and the class, its constructor and two rows of constants", face.split("public ").length - 1,
            methods.size() + others);
    }

    /** What one object of the class takes of the room. */
    private static void room() throws IllegalAccessException {
        Set<Object> found = Collections.newSetFromMap(new IdentityHashMap<>());
        int fieldsAndElements = sizeOf(new LeapStones(), found);
        Checks.isTrue("at most 700 objects: " + found.size(), found.size() <= 700);
        Checks.isTrue("at most 20,000 fields and elements: " + fieldsAndElements, fieldsAndElements <= 20_000);
    }

    private static int sizeOf(Object object, Set<Object> found) throws IllegalAccessException {
        if (object == null || !found.add(object)) {
            return 0;
        }
        int size = 0;
        if (object.getClass().isArray()) {
            size = Array.getLength(object);
            if (object instanceof Object[] row) {
                for (Object element : row) {
                    size += sizeOf(element, found);
                }
            }
            return size;
        }
        for (Field field : object.getClass().getDeclaredFields()) {
            if (!Modifier.isStatic(field.getModifiers())) {
                field.setAccessible(true);
                size += 1 + (field.getType().isPrimitive() ? 0 : sizeOf(field.get(object), found));
            }
        }
        return size;
    }

    private static void isPublicOrPrivate(Member member) {
        Checks.isTrue("public or private: " + member,
            Modifier.isPublic(member.getModifiers()) || Modifier.isPrivate(member.getModifiers()));
    }

    private void never(String what, Tree tree) {
        Checks.isTrue("no " + what + ": " + tree, false);
    }

    @Override
    public Void visitImport(ImportTree tree, Void none) {
        Checks.isTrue("in the library's part: " + tree,
            tree.getQualifiedIdentifier().toString().matches("java\\.util\\.(ArrayList|List|Arrays|Iterator)"));
        return super.visitImport(tree, none);
    }

    @Override
    public Void visitThrow(ThrowTree tree, Void none) {
        never("throw", tree);
        return super.visitThrow(tree, none);
    }

    @Override
    public Void visitTry(TryTree tree, Void none) {
        never("try", tree);
        return super.visitTry(tree, none);
    }

    @Override
    public Void visitAssert(AssertTree tree, Void none) {
        never("assert", tree);
        return super.visitAssert(tree, none);
    }

    @Override
    public Void visitSynchronized(SynchronizedTree tree, Void none) {
        never("synchronized", tree);
        return super.visitSynchronized(tree, none);
    }

    @Override
    public Void visitLambdaExpression(LambdaExpressionTree tree, Void none) {
        never("lambda", tree);
        return super.visitLambdaExpression(tree, none);
    }

    @Override
    public Void visitMemberReference(MemberReferenceTree tree, Void none) {
        never("method reference", tree);
        return super.visitMemberReference(tree, none);
    }

    @Override
    public Void visitNewClass(NewClassTree tree, Void none) {
        if (tree.getClassBody() != null) {
            never("anonymous class", tree);
        }
        madeOnlyWithItsObject(tree);
        return super.visitNewClass(tree, none);
    }

    @Override
    public Void visitNewArray(NewArrayTree tree, Void none) {
        madeOnlyWithItsObject(tree);
        return super.visitNewArray(tree, none);
    }

    /** All calls of a run live in one room: objects and arrays are made in constructors and for fields alone. */
    private void madeOnlyWithItsObject(Tree tree) {
        Checks.isTrue("no call makes an object: " + tree, method.isEmpty() || method.endsWith(".<init>"));
    }

    @Override
    public Void visitTypeCast(TypeCastTree tree, Void none) {
        Checks.isTrue("a cast to a number: " + tree, tree.getType().getKind() == Tree.Kind.PRIMITIVE_TYPE);
        return super.visitTypeCast(tree, none);
    }

    /** The class divides by constants alone, so that no divisor has to be looked at. */
    @Override
    public Void visitBinary(BinaryTree tree, Void none) {
        if (tree.getKind() == Tree.Kind.DIVIDE || tree.getKind() == Tree.Kind.REMAINDER) {
            Checks.isTrue("a constant divisor: " + tree, tree.getRightOperand().toString().matches("[A-Z_]+|[1-9]\\d*"));
        }
        return super.visitBinary(tree, none);
    }

    @Override
    public Void visitClass(ClassTree tree, Void none) {
        classes++;
        Checks.isTrue("at most 12 classes", classes <= 12);
        Set<javax.lang.model.element.Modifier> flags = tree.getModifiers().getFlags();
        boolean outer = tree.getSimpleName().contentEquals("LeapStones");
        Checks.isTrue("static: " + tree.getSimpleName(), outer || flags.contains(javax.lang.model.element.Modifier.STATIC));
        int fields = 0;
        for (Tree member : tree.getMembers()) {
            if (member instanceof VariableTree field) {
                Set<javax.lang.model.element.Modifier> of = field.getModifiers().getFlags();
                boolean isStatic = of.contains(javax.lang.model.element.Modifier.STATIC);
                Checks.isTrue("static fields are final: " + field,
                    !isStatic || of.contains(javax.lang.model.element.Modifier.FINAL));
                fields += isStatic ? 0 : 1;
            }
            Checks.isTrue("no initialiser block", member.getKind() != Tree.Kind.BLOCK);
        }
        Checks.isTrue("at most 20 fields in " + tree.getSimpleName(), fields <= 20);
        return super.visitClass(tree, none);
    }

    @Override
    public Void visitMethod(MethodTree tree, Void none) {
        String outside = method;
        method = nameOf(trees.getElement(getCurrentPath()));
        calls.putIfAbsent(method, new HashSet<>());
        Checks.isTrue("at most 7 parameters: " + method, tree.getParameters().size() <= 7);
        long first = unit.getLineMap().getLineNumber(positions.getStartPosition(unit, tree));
        long end = positions.getEndPosition(unit, tree);
        if (end > 0) {
            Checks.isTrue("at most 60 lines: " + method, unit.getLineMap().getLineNumber(end) - first < 60);
        }
        boolean isPublic = tree.getModifiers().getFlags().contains(javax.lang.model.element.Modifier.PUBLIC);
        Checks.isTrue("no public one's name: " + method, isPublic || !publicNames.contains(tree.getName().toString()));
        super.visitMethod(tree, none);
        method = outside;
        return null;
    }

    @Override
    public Void visitMethodInvocation(MethodInvocationTree tree, Void none) {
        Element called = trees.getElement(getCurrentPath());
        String name = nameOf(called);
        Checks.isTrue("in the library's part: " + name, name.startsWith("LeapStones") || LIBRARY.matcher(name).matches());
        calls.get(method).add(name);
        return super.visitMethodInvocation(tree, none);
    }

    private static String nameOf(Element method) {
        boolean known = method != null
            && (method.getKind() == ElementKind.METHOD || method.getKind() == ElementKind.CONSTRUCTOR);
        return known ? method.getEnclosingElement() + "." + method.getSimpleName() : "unknown";
    }

    private void depths() {
        Checks.isTrue("the methods were found", calls.size() > publicNames.size());
        for (String name : calls.keySet()) {
            int depth = depthOf(name, new HashSet<>());
            Checks.isTrue("at most 8 calls deep: " + name + " is " + depth, depth <= 8);
        }
    }

    private int depthOf(String name, Set<String> open) {
        if (!open.add(name)) {
            Checks.isTrue("no recursion: " + name, false);
            return 0;
        }
        int deepest = 0;
        for (String called : calls.getOrDefault(name, Set.of())) {
            deepest = Math.max(deepest, depthOf(called, open));
        }
        open.remove(name);
        return deepest + 1;
    }
}
