/** One joiner under test. It counts its calls: what a joiner answers behind the 512th one is free. */
final class Desk {
    /** Just one call of the joiner. */
    interface Call {
        long of(LoopJoiner joiner);
    }

    /** Just one call of the joiner, for the program or loop of this number. */
    interface CallAt {
        long of(LoopJoiner joiner, int number);
    }

    /** Just one call of the joiner that answers a double. */
    interface Part {
        double of(LoopJoiner joiner);
    }

    private static final int MOST_CALLS = 512;

    private final LoopJoiner joiner = new LoopJoiner();
    private int calls = 0;

    /** The digest of the joiner as it is, where it is known: refused calls in a row need it once. */
    private Long known = null;

    void answers(long due, Call call) {
        known = null;
        told(due, outcome(call));
    }

    void part(double due, Part call) {
        answers(Double.doubleToLongBits(due), j -> Double.doubleToLongBits(call.of(j)));
    }

    /** The call must answer, whatever it is. */
    void accepted(Call call) {
        known = null;
        Object got = outcome(call);
        Bench.checks.holds(Bench.place() + " got " + got + ", an answer", got instanceof Long);
    }

    /** The call must throw just this class (no subclass of it) and change nothing. */
    void refused(Class<? extends RuntimeException> due, Call call) {
        keeps(due, call);
    }

    /** The call must answer this and change nothing. */
    void answersAlone(long due, Call call) {
        keeps(due, call);
    }

    private void keeps(Object due, Call call) {
        if (known == null) {
            known = digest();
        }
        told(due, outcome(call));
        long before = known;
        known = digest();
        Bench.checks.same(Bench.place() + " digest behind the call", known, before);
    }

    private void told(Object due, Object got) {
        Bench.checks.holds(Bench.place() + " call " + calls + " got " + got + ", due is " + due + "; it", due.equals(got));
    }

    private Object outcome(Call call) {
        count();
        try {
            return call.of(joiner);
        } catch (RuntimeException thrown) {
            return thrown.getClass();
        }
    }

    long digest() {
        count();
        return joiner.digest();
    }

    int countCalls() {
        return calls;
    }

    private void count() {
        calls++;
        if (calls > MOST_CALLS) {
            throw new IllegalArgumentException("the test makes more than 512 calls");
        }
    }

    /** Adds a program of these loops, each a row of skip, stop, direction and then four numbers a step. */
    int program(int[]... loops) {
        known = null;
        count();
        int program = joiner.addProgram();
        for (int[] facts : loops) {
            loop(program, facts);
        }
        return program;
    }

    void loop(int program, int[] facts) {
        known = null;
        count();
        int loop = joiner.addLoop(program, facts[0], facts[1], facts[2] == Bench.UP);
        for (int at = 3; at + 3 < facts.length; at += 4) {
            count();
            joiner.addStep(program, loop, facts[at], facts[at + 1], facts[at + 2], facts[at + 3]);
        }
    }

    /** The program must be just these loops. */
    void holds(int program, int[]... loops) {
        answers(loops.length, j -> j.loops(program));
        for (int k = 0; k < loops.length; k++) {
            holdsLoop(program, k, loops[k]);
        }
    }

    private void holdsLoop(int program, int k, int[] facts) {
        int steps = (facts.length - 3) / 4;
        for (int what = 0; what < 3; what++) {
            int fact = what;
            answers(facts[fact], j -> j.loop(program, k, fact));
        }
        answers(steps, j -> j.loop(program, k, 3));
        for (int at = 0; at < 4 * steps; at++) {
            int step = at / 4;
            int what = at % 4;
            answers(facts[3 + at], j -> j.step(program, k, step, what));
        }
    }

    /** Makes this the row. */
    void row(long... numbers) {
        known = null;
        count();
        joiner.empty();
        for (long number : numbers) {
            count();
            joiner.put(number);
        }
    }

    void runs(int program, long code, long zero, long one, long two, long three, long cost) {
        answers(code, j -> j.run(program));
        ran(zero, one, two, three, cost);
    }

    void ran(long... due) {
        for (int what = 0; what < due.length; what++) {
            int each = what;
            answers(due[each], j -> j.ran(each));
        }
    }
}
