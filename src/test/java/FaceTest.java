import java.lang.reflect.Constructor;
import java.lang.reflect.Field;
import java.lang.reflect.Member;
import java.lang.reflect.Method;
import java.lang.reflect.Modifier;
import java.util.ArrayList;
import java.util.List;
import java.util.Set;
import java.util.TreeSet;

/** The class shows the document's face and nothing more, and holds no state outside its objects. */
public final class FaceTest {
    private static final Set<String> FACE = Set.of(
            "int addProgram() throws IllegalStateException",
            "int addLoop(int, int, int, boolean) throws IndexOutOfBoundsException, IllegalArgumentException, IllegalStateException",
            "int addStep(int, int, int, int, int, int) throws IndexOutOfBoundsException, IllegalArgumentException, IllegalStateException",
            "int loop(int, int, int) throws IndexOutOfBoundsException",
            "int step(int, int, int, int) throws IndexOutOfBoundsException",
            "int programs()",
            "int loops(int) throws IndexOutOfBoundsException",
            "int put(long) throws IllegalStateException",
            "int empty()",
            "int run(int) throws IndexOutOfBoundsException",
            "long ran(int) throws IndexOutOfBoundsException",
            "int reason(int, int, int, int) throws IndexOutOfBoundsException, IllegalArgumentException",
            "int change(int, int, int, int) throws IndexOutOfBoundsException, IllegalArgumentException, IllegalStateException",
            "int joinAll(int) throws IndexOutOfBoundsException",
            "int differ(int, int, int, int) throws IndexOutOfBoundsException, IllegalArgumentException",
            "int firstCase(int, int, int, int) throws IndexOutOfBoundsException, IllegalArgumentException",
            "int cost(int, int, int, boolean) throws IndexOutOfBoundsException, IllegalArgumentException",
            "double exits(int, int, int) throws IndexOutOfBoundsException, IllegalArgumentException",
            "long digest()");

    private static final Checks checks = new Checks();

    public static void main(String[] args) {
        Class<?> face = LoopJoiner.class;
        checks.holds("the class is public and final",
                Modifier.isPublic(face.getModifiers()) && Modifier.isFinal(face.getModifiers()));
        constructors(face);
        methods(face);
        fields(face);
        for (Class<?> inner : face.getDeclaredClasses()) {
            checks.holds(inner + " is static", Modifier.isStatic(inner.getModifiers()));
            checks.holds(inner + " is not public", !Modifier.isPublic(inner.getModifiers()));
            fields(inner);
        }
        checks.end();
    }

    private static void constructors(Class<?> face) {
        Constructor<?>[] all = face.getDeclaredConstructors();
        checks.same("constructors", all.length, 1);
        checks.holds("it is public", Modifier.isPublic(all[0].getModifiers()));
        checks.same("its arguments", all[0].getParameterCount(), 0);
    }

    private static void methods(Class<?> face) {
        Set<String> shown = new TreeSet<>();
        Set<String> names = new TreeSet<>();
        for (Method method : face.getDeclaredMethods()) {
            if (!Modifier.isPrivate(method.getModifiers())) {
                shown.add(written(method));
                names.add(method.getName());
            }
        }
        checks.holds("the face is the document's; it is " + shown, shown.equals(FACE));
        for (Method method : face.getDeclaredMethods()) {
            if (Modifier.isPrivate(method.getModifiers())) {
                checks.holds(method + " has a name of its own", !names.contains(method.getName()));
            }
        }
    }

    private static void fields(Class<?> owner) {
        for (Field field : owner.getDeclaredFields()) {
            boolean isStatic = Modifier.isStatic(field.getModifiers());
            checks.holds(field + " is a constant", !isStatic || Modifier.isFinal(field.getModifiers()));
            if (owner == LoopJoiner.class) {
                checks.holds(field + " is private", isPrivate(field));
            }
        }
    }

    private static boolean isPrivate(Member member) {
        return Modifier.isPrivate(member.getModifiers());
    }

    private static String written(Method method) {
        List<String> takes = new ArrayList<>();
        for (Class<?> each : method.getParameterTypes()) {
            takes.add(each.getSimpleName());
        }
        List<String> thrown = new ArrayList<>();
        for (Class<?> each : method.getExceptionTypes()) {
            thrown.add(each.getSimpleName());
        }
        String head = method.getReturnType().getSimpleName() + " " + method.getName() + "(" + String.join(", ", takes) + ")";
        return thrown.isEmpty() ? head : head + " throws " + String.join(", ", thrown);
    }
}
