import java.lang.reflect.InvocationTargetException;
import java.lang.reflect.Method;
import java.util.Arrays;
import java.util.Comparator;
import java.util.List;
import java.util.Map;
import java.util.TreeMap;

/** What the tests of the boundaries share: the document's numbers by their names, and how they are run. */
abstract class Bench {
    static final Class<? extends RuntimeException> INDEX = IndexOutOfBoundsException.class;
    static final Class<? extends RuntimeException> ARGUMENT = IllegalArgumentException.class;
    static final Class<? extends RuntimeException> STATE = IllegalStateException.class;

    static final int DOWN = 0;
    static final int UP = 1;

    static final int ALWAYS = 0;
    static final int EQUAL = 1;
    static final int OTHER = 2;
    static final int LESS = 3;
    static final int GREATER = 4;

    static final int SET = 0;
    static final int MARK = 1;
    static final int COUNT = 2;
    static final int ADD = 3;
    static final int BREAK = 4;
    static final int EXIT = 5;

    static final int JOIN = 0;
    static final int DIVIDE = 1;
    static final int PEEL = 2;
    static final int TURN = 3;
    static final int SWAP = 4;
    static final int STRIP = 5;

    static final Checks checks = new Checks();
    private static String told = "";

    /** Runs every test method that bears a sentence; each of the promises must have at least one. */
    static void runAll(Class<?> tests, int firstPromise, int lastPromise) {
        Map<Integer, Integer> sentences = new TreeMap<>();
        for (Method method : sentencesOf(tests)) {
            Sentence sentence = method.getAnnotation(Sentence.class);
            told = "promise " + sentence.promise() + ", \"" + sentence.value() + "\"";
            int before = checks.countMade();
            call(method);
            checks.holds(told + " is checked", checks.countMade() > before);
            sentences.merge(sentence.promise(), 1, Integer::sum);
        }
        for (int promise = firstPromise; promise <= lastPromise; promise++) {
            checks.holds("promise " + promise + " has a sentence", sentences.containsKey(promise));
        }
        System.out.println("sentences by promise: " + sentences);
        checks.end();
    }

    /** By name, since the order in which a class tells its methods is free. */
    private static List<Method> sentencesOf(Class<?> tests) {
        return Arrays.stream(tests.getDeclaredMethods())
                .filter(each -> each.isAnnotationPresent(Sentence.class))
                .sorted(Comparator.comparing(Method::getName))
                .toList();
    }

    private static void call(Method method) {
        try {
            method.setAccessible(true);
            method.invoke(null);
        } catch (InvocationTargetException thrown) {
            checks.holds(told + " threw " + thrown.getCause() + ", which", false);
        } catch (IllegalAccessException thrown) {
            checks.holds(told + " can't be called: " + thrown + ", which", false);
        }
    }

    /** The sentence that is tried just now, and the line of the test. */
    static String place() {
        String line = StackWalker.getInstance().walk(frames -> frames
                .filter(each -> each.getClassName().endsWith("Test"))
                .map(each -> each.getClassName() + " line " + each.getLineNumber())
                .findFirst().orElse("?"));
        return told + " (" + line + "):";
    }

    /** What stands just beside a range, and what stands as far from it as can be. */
    static int[] beyond(int least, int most) {
        return new int[] {least - 1, most + 1, Integer.MIN_VALUE, Integer.MAX_VALUE};
    }

    /** A loop as Desk.program() takes it: four numbers for each step. */
    static int[] loop(int skip, int stop, int direction, int... steps) {
        int[] facts = new int[3 + steps.length];
        facts[0] = skip;
        facts[1] = stop;
        facts[2] = direction;
        System.arraycopy(steps, 0, facts, 3, steps.length);
        return facts;
    }

    /** A loop over all places, upwards. */
    static int[] all(int... steps) {
        return loop(0, 0, UP, steps);
    }

    static int[] repeated(int count, int... step) {
        int[] steps = new int[count * step.length];
        for (int at = 0; at < steps.length; at++) {
            steps[at] = step[at % step.length];
        }
        return steps;
    }

    /** As many loops as told: the given ones, and behind them loops without steps. */
    static int[][] filledTo(int count, int[]... loops) {
        int[][] filled = Arrays.copyOf(loops, count);
        for (int k = loops.length; k < count; k++) {
            filled[k] = all();
        }
        return filled;
    }

    /** Whichever program is told, there must be one: of 0, 1, 9 and 10 programs, each with a loop of two steps. */
    static void takesProgramsThatAre(Desk.CallAt call) {
        for (int count : new int[] {0, 1, 9, 10}) {
            Desk desk = new Desk();
            for (int program = 0; program < count; program++) {
                desk.program(all(ALWAYS, 0, COUNT, 0, ALWAYS, 0, COUNT, 1));
            }
            for (int bad : beyond(0, count - 1)) {
                desk.refused(INDEX, j -> call.of(j, bad));
            }
            if (count > 0) {
                desk.accepted(j -> call.of(j, 0));
                desk.accepted(j -> call.of(j, count - 1));
            }
        }
    }

    /** Whichever loop of the program 0 is told, there must be one, however many the program 1 has. */
    static void takesLoopsThatAre(Desk.CallAt call) {
        for (int count : new int[] {0, 1, 7, 8}) {
            Desk desk = new Desk();
            desk.program();
            desk.program(filledTo(8));
            for (int k = 0; k < count; k++) {
                desk.loop(0, loop(0, 0, UP, ALWAYS, 0, COUNT, 0, ALWAYS, 0, COUNT, 1));
            }
            for (int bad : beyond(0, count - 1)) {
                desk.refused(INDEX, j -> call.of(j, bad));
            }
            if (count > 0) {
                desk.accepted(j -> call.of(j, 0));
                desk.accepted(j -> call.of(j, count - 1));
            }
        }
    }
}
