import com.sun.source.tree.ArrayAccessTree;
import com.sun.source.tree.AssertTree;
import com.sun.source.tree.BinaryTree;
import com.sun.source.tree.BlockTree;
import com.sun.source.tree.ClassTree;
import com.sun.source.tree.CompoundAssignmentTree;
import com.sun.source.tree.DoWhileLoopTree;
import com.sun.source.tree.EnhancedForLoopTree;
import com.sun.source.tree.ExpressionTree;
import com.sun.source.tree.ForLoopTree;
import com.sun.source.tree.LambdaExpressionTree;
import com.sun.source.tree.LiteralTree;
import com.sun.source.tree.MemberReferenceTree;
import com.sun.source.tree.MethodInvocationTree;
import com.sun.source.tree.MethodTree;
import com.sun.source.tree.ModifiersTree;
import com.sun.source.tree.NewArrayTree;
import com.sun.source.tree.NewClassTree;
import com.sun.source.tree.SynchronizedTree;
import com.sun.source.tree.ThrowTree;
import com.sun.source.tree.Tree;
import com.sun.source.tree.TryTree;
import com.sun.source.tree.TypeCastTree;
import com.sun.source.tree.VariableTree;
import com.sun.source.tree.WhileLoopTree;
import com.sun.source.util.TreePath;
import java.nio.file.Path;
import java.util.HashMap;
import java.util.HashSet;
import java.util.LinkedHashSet;
import java.util.List;
import java.util.Map;
import java.util.Set;
import java.util.regex.Pattern;
import javax.lang.model.element.Element;
import javax.lang.model.element.Modifier;

/**
 * The class keeps to ../shared/LANGUAGE.md, rule by rule, as far as its text tells. Where the class does
 * without a thing that a rule allows (recursion, library calls, try), the test asks that it stay so.
 */
public final class LanguageTest {
    private static final Set<String> PLAIN_TYPES =
            Set.of("int", "long", "short", "byte", "char", "boolean", "double", "float", "void", "String");
    private static final Set<String> STATIC_TYPES =
            Set.of("int", "long", "boolean", "char", "String", "int[]", "long[]", "char[]", "byte[]");
    private static final Set<String> EXCEPTIONS = Set.of("IllegalStateException", "IllegalArgumentException",
            "IndexOutOfBoundsException", "ArithmeticException", "UnsupportedOperationException",
            "NoSuchElementException", "RuntimeException");
    private static final int MOST_PARAMETERS = 7;
    private static final int MOST_LINES = 60;
    private static final int MOST_CLASSES = 12;
    private static final int MOST_FIELDS = 20;
    private static final int DEEPEST = 8;

    private static final Checks checks = new Checks();

    private final Source source;
    private final Set<String> ownClasses = new HashSet<>();

    private LanguageTest(Source source) {
        this.source = source;
        for (TreePath path : source.all(ClassTree.class)) {
            ownClasses.add(((ClassTree) path.getLeaf()).getSimpleName().toString());
        }
    }

    public static void main(String[] args) throws Exception {
        LanguageTest test = new LanguageTest(new Source(Path.of("src", "main", "java", "LoopJoiner.java")));
        test.rule1NamesOfTheFaceStandOnce();
        test.rule2NothingThatTakesVariablesAlong();
        test.rule3Types();
        test.rule4NoLibrary();
        test.rule5StaticFieldsAreConstants();
        test.rule6Exceptions();
        test.rule7IndicesAndDivisorsAreTested();
        test.rule9LoopsEnd();
        test.rule10NoTextsJoinedByPlus();
        test.rules8And11CallsGoDownOnly();
        test.rule11Sizes();
        test.rule12NothingIsMadeInALoop();
        checks.end();
    }

    private void rule1NamesOfTheFaceStandOnce() {
        Set<String> names = new HashSet<>();
        Set<String> others = new HashSet<>();
        for (TreePath path : source.all(MethodTree.class)) {
            MethodTree method = (MethodTree) path.getLeaf();
            boolean isPublic = method.getModifiers().getFlags().contains(Modifier.PUBLIC);
            (isPublic ? names : others).add(method.getName().toString());
        }
        for (String name : others) {
            checks.holds("1: " + name + " is no name of the face", !names.contains(name));
        }
    }

    private void rule2NothingThatTakesVariablesAlong() {
        none("2", LambdaExpressionTree.class);
        none("2", MemberReferenceTree.class);
        for (TreePath path : source.all(ClassTree.class)) {
            Tree parent = path.getParentPath().getLeaf();
            holds("2: the class stands in the file or in a class", path, parent == source.unit() || parent instanceof ClassTree);
        }
    }

    private void rule3Types() {
        for (TreePath path : source.all(VariableTree.class)) {
            holds("3: its type", path, isType(((VariableTree) path.getLeaf()).getType()));
        }
        for (TreePath path : source.all(MethodTree.class)) {
            Tree type = ((MethodTree) path.getLeaf()).getReturnType();
            holds("3: the type that it returns", path, type == null || isType(type));
        }
        for (TreePath path : source.all(TypeCastTree.class)) {
            String type = source.textOf(((TypeCastTree) path.getLeaf()).getType());
            holds("6: the cast is one of numbers", path, PLAIN_TYPES.contains(type));
        }
    }

    private boolean isType(Tree type) {
        String name = source.textOf(type);
        String single = name.endsWith("[]") ? name.substring(0, name.length() - 2) : name;
        return PLAIN_TYPES.contains(single) || ownClasses.contains(single);
    }

    private void rule4NoLibrary() {
        checks.holds("1: no package line", source.unit().getPackageName() == null);
        checks.holds("4: no imports", source.unit().getImports().isEmpty());
        for (TreePath path : source.all(MethodInvocationTree.class)) {
            holds("4: what is called is the class's own", path, isOwn(methodCalledAt(path).getEnclosingElement()));
        }
        for (TreePath path : source.all(NewClassTree.class)) {
            String made = source.textOf(((NewClassTree) path.getLeaf()).getIdentifier());
            boolean isThrown = path.getParentPath().getLeaf() instanceof ThrowTree;
            holds("4: what is made", path, ownClasses.contains(made) || isThrown && EXCEPTIONS.contains(made));
        }
    }

    private boolean isOwn(Element type) {
        return ownClasses.contains(type.getSimpleName().toString());
    }

    private void rule5StaticFieldsAreConstants() {
        for (TreePath path : source.all(VariableTree.class)) {
            VariableTree variable = (VariableTree) path.getLeaf();
            ModifiersTree modifiers = variable.getModifiers();
            if (modifiers.getFlags().contains(Modifier.STATIC)) {
                holds("5: it is final", path, modifiers.getFlags().contains(Modifier.FINAL));
                holds("5: its type", path, STATIC_TYPES.contains(source.textOf(variable.getType())));
            }
        }
        for (TreePath path : source.all(BlockTree.class)) {
            holds("5: the block is no initialiser", path, !(path.getParentPath().getLeaf() instanceof ClassTree));
        }
    }

    private void rule6Exceptions() {
        for (TreePath path : source.all(ThrowTree.class)) {
            ExpressionTree thrown = ((ThrowTree) path.getLeaf()).getExpression();
            holds("6: it throws a new one with a written text", path,
                    thrown instanceof NewClassTree && isWritten(((NewClassTree) thrown).getArguments()));
            MethodTree method = (MethodTree) Source.around(path, MethodTree.class).getLeaf();
            holds("6: it stands in no constructor", path, method.getReturnType() != null);
        }
        none("6", TryTree.class);
        none("6", SynchronizedTree.class);
        none("6", AssertTree.class);
        for (TreePath path : source.all(MethodTree.class)) {
            String name = ((MethodTree) path.getLeaf()).getName().toString();
            holds("6: its name", path, !Set.of("equals", "hashCode", "toString").contains(name));
        }
    }

    private static boolean isWritten(List<? extends ExpressionTree> arguments) {
        return arguments.isEmpty() || arguments.size() == 1 && arguments.get(0) instanceof LiteralTree;
    }

    private void rule7IndicesAndDivisorsAreTested() {
        for (TreePath path : source.all(ArrayAccessTree.class)) {
            ArrayAccessTree access = (ArrayAccessTree) path.getLeaf();
            String index = source.textOf(access.getIndex());
            String method = source.methodAround(path);
            holds("7: its index is tested against the length", path,
                    method.matches("(?s).*\\b" + index + " (<|>=) " + source.textOf(access.getExpression()) + "\\.length\\b.*"));
            holds("7: its index is tested against 0", path,
                    method.matches("(?s).*\\b" + index + " (= 0;|>= 0\\b|< 0\\b).*"));
        }
        for (TreePath path : source.all(BinaryTree.class)) {
            if (Set.of(Tree.Kind.DIVIDE, Tree.Kind.REMAINDER).contains(path.getLeaf().getKind())) {
                String divisor = source.textOf(((BinaryTree) path.getLeaf()).getRightOperand()).replaceFirst("^\\(\\w+\\) ", "");
                holds("7: its divisor is tested", path, source.methodAround(path).contains(divisor + " > 0"));
            }
        }
    }

    private void rule9LoopsEnd() {
        none("9", DoWhileLoopTree.class);
        for (TreePath path : source.all(ForLoopTree.class)) {
            ForLoopTree loop = (ForLoopTree) path.getLeaf();
            holds("9: its counter moves", path, loop.getUpdate().size() == 1
                    && isMoved(loop.getCondition(), source.textOf(loop.getUpdate().get(0))));
        }
        for (TreePath path : source.all(WhileLoopTree.class)) {
            WhileLoopTree loop = (WhileLoopTree) path.getLeaf();
            holds("9: its counter moves", path, isMoved(loop.getCondition(), source.textOf(loop.getStatement())));
        }
    }

    /** Whether a name that the condition tests first is counted up or down in the text. */
    private boolean isMoved(ExpressionTree condition, String text) {
        String counter = condition == null ? "" : source.textOf(condition).replaceFirst("^\\(", "").replaceFirst("\\W.*", "");
        return !counter.isEmpty() && Pattern.compile("\\b" + counter + "(\\+\\+|--)").matcher(text).find();
    }

    private void rule10NoTextsJoinedByPlus() {
        for (TreePath path : source.all(BinaryTree.class)) {
            holds("10: no text", path, !source.typeOf(path).toString().equals("java.lang.String"));
        }
        for (TreePath path : source.all(CompoundAssignmentTree.class)) {
            holds("10: no text", path, !source.typeOf(path).toString().equals("java.lang.String"));
        }
    }

    private void rules8And11CallsGoDownOnly() {
        Map<Element, Set<Element>> calls = new HashMap<>();
        for (TreePath path : source.all(MethodInvocationTree.class)) {
            TreePath caller = Source.around(path, MethodTree.class);
            if (caller != null) {
                calls.computeIfAbsent(source.meantBy(caller), method -> new LinkedHashSet<>()).add(methodCalledAt(path));
            }
        }
        for (TreePath path : source.all(MethodTree.class)) {
            int depth = depthOf(source.meantBy(path), calls, 1);
            holds("8, 11: calls go at most 8 deep (" + depth + ")", path, depth <= DEEPEST);
        }
    }

    /** One more than DEEPEST stands for everything deeper, recursion too. */
    private int depthOf(Element method, Map<Element, Set<Element>> calls, int depth) {
        int deepest = depth;
        if (depth <= DEEPEST) {
            for (Element called : calls.getOrDefault(method, Set.of())) {
                deepest = Math.max(deepest, depthOf(called, calls, depth + 1));
            }
        }
        return deepest;
    }

    private void rule11Sizes() {
        checks.holds("11: at most 12 classes", ownClasses.size() <= MOST_CLASSES);
        for (TreePath path : source.all(MethodTree.class)) {
            MethodTree method = (MethodTree) path.getLeaf();
            holds("11: at most 7 parameters", path, method.getParameters().size() <= MOST_PARAMETERS);
            holds("11: at most 60 lines", path, source.linesOf(method) <= MOST_LINES);
        }
        for (TreePath path : source.all(ClassTree.class)) {
            long fields = ((ClassTree) path.getLeaf()).getMembers().stream().filter(LanguageTest::isField).count();
            holds("11: at most 20 fields", path, fields <= MOST_FIELDS);
        }
    }

    private static boolean isField(Tree member) {
        return member instanceof VariableTree variable && !variable.getModifiers().getFlags().contains(Modifier.STATIC);
    }

    private void rule12NothingIsMadeInALoop() {
        for (Class<? extends Tree> kind : List.of(NewClassTree.class, NewArrayTree.class)) {
            for (TreePath path : source.all(kind)) {
                holds("12: it is made in no loop", path, Source.around(path, ForLoopTree.class, WhileLoopTree.class,
                        EnhancedForLoopTree.class, DoWhileLoopTree.class) == null);
            }
        }
    }

    private Element methodCalledAt(TreePath path) {
        return source.meantBy(new TreePath(path, ((MethodInvocationTree) path.getLeaf()).getMethodSelect()));
    }

    private void none(String rule, Class<? extends Tree> kind) {
        for (TreePath path : source.all(kind)) {
            holds(rule + ": no " + kind.getSimpleName(), path, false);
        }
    }

    private void holds(String what, TreePath path, boolean isSo) {
        checks.holds(what + " [" + source.told(path.getLeaf()) + "]", isSo);
    }
}
