import java.util.Map;
import java.util.Random;
import java.util.TreeMap;

/**
 * Long runs of calls, the same ones each time, on the class and on the model of it: each answer,
 * each exception and the digest behind each call must agree. And wherever a change may be made,
 * the new program must do the same as the old one.
 */
public final class ModelTest {
    private static final int RUNS = 1000;

    /** No call of the test may come behind the object's 512th one; makeCall() makes at most 50. */
    private static final int ENOUGH_CALLS = 460;

    /** One call, to be made on the class or on the model. */
    private interface Call {
        Object make();
    }

    private static final Checks checks = new Checks();
    private static final Map<String, Integer> met = new TreeMap<>();

    private final Random random;
    private final LoopJoiner joiner = new LoopJoiner();
    private final Model model = new Model();
    private final boolean isPlain;
    private int calls = 0;

    private ModelTest(long seed) {
        random = new Random(seed);
        isPlain = seed % 2 == 0;
    }

    public static void main(String[] args) {
        for (int seed = 0; seed < RUNS; seed++) {
            ModelTest run = new ModelTest(seed);
            while (run.calls < ENOUGH_CALLS) {
                run.makeCall();
                run.both("seed " + seed + ": digest", run.joiner::digest, run.model::digest);
            }
        }
        expectAllMet();
        checks.end();
    }

    /** A run that never comes to a reason would prove nothing about it. */
    private static void expectAllMet() {
        int[][] reasons = {{0, 1, 2, 3, 4, 5}, {0, 2, 3, 4, 6}, {0, 2, 6, 7, 8}, {0, 2, 9, 10, 11}, {0, 3, 4}, {0}};
        for (int change = 0; change < reasons.length; change++) {
            for (int reason : reasons[change]) {
                checks.holds("change " + change + " met the reason " + reason, met.containsKey(change + ":" + reason));
            }
            checks.holds("change " + change + " was made", met.containsKey("made:" + change));
        }
        for (String call : new String[] {"addProgram", "addLoop", "addStep", "put", "change"}) {
            checks.holds(call + " met IllegalStateException", met.containsKey(call + " IllegalStateException"));
        }
    }

    private int below(int end) {
        return random.nextInt(end);
    }

    /** Mostly a number of least to most, seldom one beside them or a far one. */
    private int near(int least, int most) {
        int kind = below(60);
        if (kind == 0) {
            return least - 1;
        }
        if (kind == 1) {
            return most + 1;
        }
        if (kind == 2) {
            return random.nextInt();
        }
        return most < least ? least : least + below(most - least + 1);
    }

    private int program() {
        return near(0, model.programs.size() - 1);
    }

    private int loopOf(int program) {
        boolean isThere = program >= 0 && program < model.programs.size();
        return near(0, isThere ? model.programs.get(program).size() - 1 : 0);
    }

    private int with() {
        return isPlain || below(3) > 0 ? near(-1, 4) : near(1000, 1003);
    }

    private int deed() {
        int kind = below(isPlain ? 22 : 12);
        return kind == 0 ? 4 : kind == 1 ? 5 : kind == 2 ? near(0, 5) : kind == 3 ? 0 : kind == 4 ? 1 : 2 + kind % 2;
    }

    /** A loop keeps mostly to a variable of its own, so that many loops are apart. */
    private int ofFor(int deed, int loop) {
        return deed == 4 ? near(0, 0) : deed == 5 ? near(0, below(2) * 100) : below(4) > 0 ? loop & 3 : near(0, 3);
    }

    private void makeCall() {
        switch (below(24)) {
            case 0 -> addProgram();
            case 1, 2, 3 -> addLoop();
            case 4, 5, 6, 7, 8, 9, 10 -> addStep();
            case 11 -> tell();
            case 12, 13 -> put();
            case 14 -> runAndRan();
            case 15 -> joinAll();
            case 16, 17 -> cases();
            default -> change();
        }
    }

    private void addProgram() {
        if (model.programs.size() < 4 || below(3) == 0) {
            both("addProgram", joiner::addProgram, model::addProgram);
        }
        both("programs", joiner::programs, model.programs::size);
    }

    private void addLoop() {
        int program = program();
        boolean isLikeOthers = below(3) > 0;
        int skip = isLikeOthers ? 0 : near(0, 5);
        int stop = isLikeOthers ? 0 : near(0, 5);
        boolean isUp = isLikeOthers || below(2) == 0;
        both("addLoop", () -> joiner.addLoop(program, skip, stop, isUp), () -> model.addLoop(program, skip, stop, isUp));
    }

    private void addStep() {
        int program = program();
        int loop = loopOf(program);
        int look = near(0, 4);
        int with = with();
        int deed = deed();
        int of = ofFor(deed, loop);
        both("addStep", () -> joiner.addStep(program, loop, look, with, deed, of),
                () -> model.addStep(program, loop, look, with, deed, of));
    }

    private void tell() {
        int program = program();
        int loop = loopOf(program);
        int step = near(0, 5);
        int what = near(0, 3);
        both("loops", () -> joiner.loops(program), () -> model.loops(program));
        both("loop", () -> joiner.loop(program, loop, what), () -> model.loop(program, loop, what));
        both("step", () -> joiner.step(program, loop, step, what), () -> model.step(program, loop, step, what));
    }

    private void put() {
        if (below(60) == 0) {
            both("empty", joiner::empty, model::empty);
        }
        int count = below(25) == 0 ? 41 : below(3);
        for (int i = 0; i < count; i++) {
            long value = below(10) == 0 ? random.nextLong() : near(-2, 5);
            both("put", () -> joiner.put(value), () -> model.put(value));
        }
    }

    private void runAndRan() {
        int program = program();
        int what = near(0, 4);
        both("run", () -> joiner.run(program), () -> model.run(program));
        both("ran", () -> joiner.ran(what), () -> model.ran(what));
    }

    private void joinAll() {
        int program = below(6) == 0 ? program() : -1;
        both("joinAll", () -> joiner.joinAll(program), () -> model.joinAll(program));
    }

    private void cases() {
        int a = program();
        int b = program();
        int n = near(0, 3);
        int v = near(1, 4);
        boolean isMost = below(2) == 0;
        both("differ", () -> joiner.differ(a, b, n, v), () -> model.differ(a, b, n, v));
        both("firstCase", () -> joiner.firstCase(a, b, n, v), () -> model.firstCase(a, b, n, v));
        both("cost", () -> joiner.cost(a, n, v, isMost), () -> model.cost(a, n, v, isMost));
        both("exits", () -> joiner.exits(a, n, v), () -> model.exits(a, n, v));
    }

    private void change() {
        int program = program();
        int change = near(0, 5);
        int loop = change == 5 ? near(0, 0) : loopOf(program);
        int with = change == 1 ? near(1, 4) : change == 2 ? near(1, 10) : near(0, 0);
        Object reason = both("reason", () -> joiner.reason(program, change, loop, with),
                () -> model.reason(program, change, loop, with));
        if (reason instanceof Integer) {
            met.merge(change + ":" + reason, 1, Integer::sum);
        }
        if (model.programs.size() == 10 && below(4) > 0) {
            return;
        }
        Object made = both("change", () -> joiner.change(program, change, loop, with),
                () -> model.change(program, change, loop, with));
        if (made instanceof Integer fresh) {
            met.merge("made:" + change, 1, Integer::sum);
            expectTheSame(program, fresh, change, with);
        }
    }

    private void expectTheSame(int old, int fresh, int change, int with) {
        for (int n = 0; n <= 6; n++) {
            if (change != 2 || n == with) {
                calls++;
                checks.same("change " + change + " does the same", joiner.differ(old, fresh, n, n < 6 ? 3 : 2), 0);
            }
        }
    }

    /** Makes the call on both; returns the class's answer, or the name of what it threw. */
    private Object both(String name, Call ours, Call due) {
        calls++;
        Object got = outcome(ours);
        Object want = outcome(due);
        checks.holds(name + " answered " + got + ", due is " + want, got.equals(want));
        if (got instanceof String) {
            met.merge(name + " " + got, 1, Integer::sum);
        }
        return got;
    }

    private static Object outcome(Call call) {
        try {
            return call.make();
        } catch (RuntimeException thrown) {
            return thrown.getClass().getSimpleName();
        }
    }
}
