import com.sun.source.tree.*;
import com.sun.source.util.JavacTask;
import com.sun.source.util.TreePath;
import com.sun.source.util.TreePathScanner;
import com.sun.source.util.Trees;
import java.nio.file.Files;
import java.nio.file.Path;
import java.util.HashMap;
import java.util.HashSet;
import java.util.List;
import java.util.Map;
import java.util.Set;
import java.util.TreeSet;
import javax.lang.model.element.Element;
import javax.lang.model.element.ElementKind;
import javax.lang.model.element.ExecutableElement;
import javax.lang.model.element.Modifier;
import javax.lang.model.element.TypeElement;
import javax.lang.model.type.TypeMirror;
import javax.tools.JavaCompiler;
import javax.tools.StandardJavaFileManager;
import javax.tools.ToolProvider;

/**
 * What a reading of the class can tell of the rules of ../shared/LANGUAGE.md; each fault is told with
 * the number of its rule. Where a rule is hard to tell, a narrower one is held: no recursion at all,
 * no catch at all, nothing made but in constructors and for a throw.
 */
public final class LanguageTest {
    private static final Path SOURCE = Path.of("src", "main", "java", "StuckatBench.java");
    private static final String FACE = "StuckatBench";
    private static final int MOST_CLASSES = 12;
    private static final int MOST_FIELDS = 20;
    private static final int MOST_PARAMETERS = 7;
    private static final int MOST_ROWS = 60;
    private static final int MOST_DEEP = 8;
    private static final Set<String> NUMBERS = Set.of("int", "long", "short", "byte", "char", "boolean", "double", "float");
    private static final Set<String> LIBRARY = Set.of("java.util.Arrays.fill", "java.util.Arrays.copyOf",
        "java.util.Arrays.copyOfRange", "java.lang.System.arraycopy");
    private static final Set<String> STATICS = Set.of("java.lang.Integer", "java.lang.Long", "java.lang.Math");
    private static final Set<String> THROWN = Set.of("IllegalStateException", "IllegalArgumentException",
        "IndexOutOfBoundsException", "ArithmeticException", "UnsupportedOperationException", "NoSuchElementException",
        "RuntimeException");
    private static final Set<String> IMPORTS = Set.of("java.util.Arrays", "java.util.NoSuchElementException");
    private static final Set<Tree.Kind> FORBIDDEN = Set.of(Tree.Kind.LAMBDA_EXPRESSION, Tree.Kind.MEMBER_REFERENCE,
        Tree.Kind.TRY, Tree.Kind.CATCH, Tree.Kind.SYNCHRONIZED, Tree.Kind.ASSERT, Tree.Kind.INSTANCE_OF, Tree.Kind.TYPE_CAST,
        Tree.Kind.SWITCH_EXPRESSION, Tree.Kind.YIELD, Tree.Kind.ANNOTATION, Tree.Kind.DIVIDE, Tree.Kind.REMAINDER,
        Tree.Kind.DIVIDE_ASSIGNMENT, Tree.Kind.REMAINDER_ASSIGNMENT);

    private static int wrongs;
    private static int looked;
    private static Trees trees;
    private static CompilationUnitTree unit;
    private static final Map<Element, Set<Element>> calls = new HashMap<>();
    private static final Set<String> publicNames = new HashSet<>();

    public static void main(String[] args) throws Exception {
        String text = Files.readString(SOURCE);
        for (int i = 0; i < text.length(); i++) say(text.charAt(i) < 127, 4, "a sign beyond 126 at " + i);
        JavaCompiler compiler = ToolProvider.getSystemJavaCompiler();
        StandardJavaFileManager files = compiler.getStandardFileManager(null, null, null);
        JavacTask task = (JavacTask) compiler.getTask(null, files, null, List.of("-proc:none"), null,
            files.getJavaFileObjects(SOURCE.toFile()));
        unit = task.parse().iterator().next();
        task.analyze();
        trees = Trees.instance(task);
        say(unit.getPackageName() == null, 1, "a package line");
        for (ImportTree each : unit.getImports()) {
            say(!each.isStatic() && IMPORTS.contains(each.getQualifiedIdentifier().toString()), 4, each.toString());
        }
        for (Tree each : unit.getTypeDecls()) publicNamesOf((ClassTree) each);
        say(unit.getTypeDecls().size() == 1, 1, "more than one class");
        new Reader().scan(unit, null);
        depths();
        System.out.println(looked + " looks at the text of the class, " + wrongs + " wrong");
        if (wrongs > 0) System.exit(1);
    }

    private static void say(boolean is, int rule, String text) {
        looked++;
        if (!is) {
            wrongs++;
            System.out.println("rule " + rule + ": " + text);
        }
    }

    private static void publicNamesOf(ClassTree face) {
        for (Tree member : face.getMembers()) {
            if (member instanceof MethodTree method && method.getModifiers().getFlags().contains(Modifier.PUBLIC)) {
                publicNames.add(method.getName().toString());
            }
        }
    }

    private static long rowOf(Tree tree, boolean atEnd) {
        long at = atEnd ? trees.getSourcePositions().getEndPosition(unit, tree) : trees.getSourcePositions().getStartPosition(unit, tree);
        return unit.getLineMap().getLineNumber(at);
    }

    private static String at(Tree tree) {
        return " in line " + rowOf(tree, false);
    }

    private static final class Reader extends TreePathScanner<Void, Void> {
        private int classes;

        @Override
        public Void scan(Tree tree, Void none) {
            if (tree != null && FORBIDDEN.contains(tree.getKind())) {
                say(isFractionAllowed(tree), 6, tree.getKind() + at(tree));
            }
            return super.scan(tree, none);
        }

        /** The shares of the face, of two floats or two doubles, a divisor that was looked at before. */
        private boolean isFractionAllowed(Tree tree) {
            if (tree.getKind() == Tree.Kind.TYPE_CAST) {
                return Set.of("float", "double", "int").contains(((TypeCastTree) tree).getType().toString());
            }
            if (tree.getKind() != Tree.Kind.DIVIDE) return false;
            MethodTree method = method();
            return method != null && Set.of("coverage", "meanFound").contains(method.getName().toString());
        }

        private MethodTree method() {
            for (TreePath path = getCurrentPath(); path != null; path = path.getParentPath()) {
                if (path.getLeaf() instanceof MethodTree method) return method;
            }
            return null;
        }

        private boolean isWithin(Tree.Kind kind) {
            for (TreePath path = getCurrentPath(); path != null; path = path.getParentPath()) {
                if (path.getLeaf().getKind() == kind) return true;
            }
            return false;
        }

        private boolean isInConstructor() {
            MethodTree method = method();
            return method == null || method.getName().contentEquals("<init>");
        }

        @Override
        public Void visitClass(ClassTree tree, Void none) {
            classes++;
            String name = tree.getSimpleName().toString();
            Set<Modifier> flags = tree.getModifiers().getFlags();
            say(classes <= MOST_CLASSES, 11, classes + " classes");
            say(method() == null, 2, "a class in a method: " + name);
            if (name.equals(FACE)) {
                say(flags.contains(Modifier.PUBLIC) && flags.contains(Modifier.FINAL), 1, "public and final");
            } else {
                say(flags.contains(Modifier.STATIC), 1, name + " is not static");
                say(!flags.contains(Modifier.PUBLIC) && !flags.contains(Modifier.PROTECTED), 1, name + " is seen");
            }
            int fields = 0;
            for (Tree member : tree.getMembers()) {
                say(member.getKind() != Tree.Kind.BLOCK, 5, "an initialiser block in " + name);
                if (member instanceof VariableTree field && !field.getModifiers().getFlags().contains(Modifier.STATIC)) fields++;
            }
            say(fields <= MOST_FIELDS, 11, fields + " fields in " + name);
            return super.visitClass(tree, none);
        }

        @Override
        public Void visitMethod(MethodTree tree, Void none) {
            Set<Modifier> flags = tree.getModifiers().getFlags();
            String name = tree.getName().toString();
            boolean isOfFace = ((ClassTree) getCurrentPath().getParentPath().getLeaf()).getSimpleName().contentEquals(FACE);
            say(!isOfFace || flags.contains(Modifier.PUBLIC) || flags.contains(Modifier.PRIVATE), 1, name + " is package-visible");
            say(isOfFace || !flags.contains(Modifier.PUBLIC), 1, name + " is public");
            say(!flags.contains(Modifier.PROTECTED), 1, name + " is protected");
            say(!flags.contains(Modifier.PRIVATE) || name.equals("<init>") || !publicNames.contains(name), 1, name + " bears a public name");
            say(!Set.of("equals", "hashCode", "toString", "finalize").contains(name), 6, name);
            say(tree.getParameters().size() <= MOST_PARAMETERS, 11, "many parameters: " + name);
            say(rowOf(tree, true) - rowOf(tree, false) < MOST_ROWS, 11, "a long method: " + name);
            typed(trees.getTypeMirror(new TreePath(getCurrentPath(), tree)), tree);
            calls.computeIfAbsent(trees.getElement(getCurrentPath()), k -> new HashSet<>());
            return super.visitMethod(tree, none);
        }

        @Override
        public Void visitVariable(VariableTree tree, Void none) {
            Element element = trees.getElement(getCurrentPath());
            typed(element.asType(), tree);
            Set<Modifier> flags = tree.getModifiers().getFlags();
            if (element.getKind() == ElementKind.FIELD) {
                boolean isOfFace = element.getEnclosingElement().getSimpleName().contentEquals(FACE);
                say(!isOfFace || flags.contains(Modifier.PRIVATE), 1, tree.getName() + " is not private");
                if (flags.contains(Modifier.STATIC)) {
                    say(flags.contains(Modifier.FINAL), 5, tree.getName() + " is not final");
                    String type = element.asType().toString();
                    boolean isConstant = ((javax.lang.model.element.VariableElement) element).getConstantValue() != null;
                    boolean isWrittenOut = tree.getInitializer() != null && tree.getInitializer().getKind() == Tree.Kind.NEW_ARRAY;
                    say(isConstant || isWrittenOut && Set.of("int[]", "long[]", "char[]", "byte[]").contains(type), 5,
                        tree.getName() + " is no constant");
                }
            }
            return super.visitVariable(tree, none);
        }

        private void typed(TypeMirror type, Tree tree) {
            if (type == null || type.toString().contains("(")) return;
            String name = type.toString();
            String element = name.replace("[]", "");
            boolean isOwn = element.equals(FACE) || element.startsWith(FACE + ".");
            boolean isNumber = NUMBERS.contains(element);
            int dimensions = (name.length() - element.length()) / 2;
            say(isOwn || isNumber || element.equals("java.lang.String"), 3, "the type " + name + at(tree));
            say(dimensions <= (isNumber ? 2 : 1), 3, "the type " + name + at(tree));
        }

        @Override
        public Void visitMethodInvocation(MethodInvocationTree tree, Void none) {
            called(tree);
            return super.visitMethodInvocation(tree, none);
        }

        @Override
        public Void visitNewClass(NewClassTree tree, Void none) {
            called(tree);
            say(tree.getClassBody() == null, 2, "an anonymous class" + at(tree));
            say(isWithin(Tree.Kind.THROW) || isInConstructor(), 12, "made outside of a constructor" + at(tree));
            return super.visitNewClass(tree, none);
        }

        @Override
        public Void visitNewArray(NewArrayTree tree, Void none) {
            say(isInConstructor(), 12, "made outside of a constructor" + at(tree));
            return super.visitNewArray(tree, none);
        }

        private void called(Tree tree) {
            Element target = trees.getElement(getCurrentPath());
            MethodTree from = method();
            TypeElement owner = (TypeElement) target.getEnclosingElement();
            String name = owner.getQualifiedName() + "." + target.getSimpleName();
            if (owner.getQualifiedName().toString().startsWith(FACE)) {
                if (from != null) {
                    TreePath path = getCurrentPath();
                    while (path.getLeaf() != from) path = path.getParentPath();
                    calls.computeIfAbsent(trees.getElement(path), k -> new HashSet<>()).add(target);
                }
                return;
            }
            boolean isMade = target.getKind() == ElementKind.CONSTRUCTOR;
            if (isMade && owner.toString().equals("java.lang.Object")) return;
            if (isMade) {
                say(isWithin(Tree.Kind.THROW) && THROWN.contains(owner.getSimpleName().toString()), 6, "new " + owner + at(tree));
                return;
            }
            boolean isStatic = STATICS.contains(owner.getQualifiedName().toString())
                && ((ExecutableElement) target).getParameters().stream().allMatch(p -> NUMBERS.contains(p.asType().toString()))
                && !target.getSimpleName().toString().endsWith("Exact") && target.getModifiers().contains(Modifier.STATIC);
            say(LIBRARY.contains(name) || isStatic, 4, name + at(tree));
        }

        @Override
        public Void visitThrow(ThrowTree tree, Void none) {
            say(tree.getExpression() instanceof NewClassTree, 6, "what is thrown is not made there" + at(tree));
            if (tree.getExpression() instanceof NewClassTree made) {
                boolean isPlain = made.getArguments().isEmpty()
                    || made.getArguments().size() == 1 && made.getArguments().get(0).getKind() == Tree.Kind.STRING_LITERAL;
                say(isPlain, 6, "no written text" + at(tree));
            }
            say(!isInConstructor(), 6, "a throw in a constructor" + at(tree));
            return super.visitThrow(tree, none);
        }

        @Override
        public Void visitForLoop(ForLoopTree tree, Void none) {
            say(tree.getCondition() != null && tree.getCondition().getKind() != Tree.Kind.BOOLEAN_LITERAL, 9, "no end" + at(tree));
            say(!tree.getUpdate().isEmpty(), 9, "nothing counts" + at(tree));
            return super.visitForLoop(tree, none);
        }

        @Override
        public Void visitWhileLoop(WhileLoopTree tree, Void none) {
            say(!tree.getCondition().toString().equals("(true)"), 9, "no end" + at(tree));
            return super.visitWhileLoop(tree, none);
        }

        @Override
        public Void visitBinary(BinaryTree tree, Void none) {
            TypeMirror type = trees.getTypeMirror(getCurrentPath());
            say(type == null || !type.toString().equals("java.lang.String"), 10, "texts joined by +" + at(tree));
            boolean isFraction = type != null && Set.of("float", "double").contains(type.toString());
            say(!isFraction || tree.getKind() == Tree.Kind.DIVIDE, 3, "a float or double" + at(tree));
            return super.visitBinary(tree, none);
        }

        @Override
        public Void visitSwitch(SwitchTree tree, Void none) {
            for (CaseTree each : tree.getCases()) {
                say(each.getCaseKind() == CaseTree.CaseKind.STATEMENT, 10, "a switch with arrows" + at(tree));
            }
            return super.visitSwitch(tree, none);
        }
    }

    /** No method calls itself in any way, and the calls that stand open at once stay few. */
    private static void depths() {
        Map<Element, Integer> known = new HashMap<>();
        TreeSet<String> deep = new TreeSet<>();
        for (Element each : calls.keySet()) {
            int depth = depthOf(each, known, new HashSet<>());
            if (depth > MOST_DEEP) deep.add(each.getEnclosingElement() + "." + each + " goes " + depth + " deep");
        }
        say(deep.isEmpty(), 11, deep.toString());
    }

    private static int depthOf(Element method, Map<Element, Integer> known, Set<Element> open) {
        if (known.containsKey(method)) return known.get(method);
        if (!open.add(method)) {
            say(false, 8, method + " calls itself");
            return 0;
        }
        int most = 0;
        for (Element next : calls.getOrDefault(method, Set.of())) most = Math.max(most, depthOf(next, known, open));
        open.remove(method);
        known.put(method, most + 1);
        return most + 1;
    }
}
