/**
 * A joiner of loops: it keeps programs of loops over a row of numbers, runs them, changes them into
 * others that do the same, and proves on all short rows whether two of them do the same.
 */
public final class LoopJoiner {
    private static final int MOST_PROGRAMS = 10;
    private static final int MOST_LOOPS = 8;
    private static final int MOST_STEPS = 6;
    private static final int MOST_NUMBERS = 40;
    private static final int MOST_SKIP = 5;
    private static final int VARIABLES = 4;

    /** What is kept of a loop, in the order in which loop() numbers it. */
    private static final int SKIP = 0;
    private static final int STOP = 1;
    private static final int UP = 2;
    private static final int STEPS = 3;
    private static final int LOOP_FACTS = 4;

    /** What is kept of a step, in the order in which step() numbers it. */
    private static final int LOOK = 0;
    private static final int WITH = 1;
    private static final int DEED = 2;
    private static final int OF = 3;
    private static final int STEP_FACTS = 4;

    private static final int ALWAYS = 0;
    private static final int EQUAL = 1;
    private static final int OTHER = 2;
    private static final int LESS = 3;
    private static final int GREATER = 4;
    private static final int MOST_CONSTANT = 100;
    private static final int FIRST_VARIABLE = 1000;

    private static final int SET = 0;
    private static final int MARK = 1;
    private static final int COUNT = 2;
    private static final int ADD = 3;
    private static final int BREAK = 4;
    private static final int EXIT = 5;
    private static final int MOST_CODE = 100;
    private static final int NOT_LEFT = -1;

    private static final int JOIN = 0;
    private static final int DIVIDE = 1;
    private static final int PEEL = 2;
    private static final int TURN = 3;
    private static final int SWAP = 4;
    private static final int STRIP = 5;
    private static final int MOST_PEELED = 10;

    private static final int OTHER_RANGES = 1;
    private static final int HAS_BREAK = 2;
    private static final int BOTH_EXIT = 3;
    private static final int NOT_APART = 4;
    private static final int TOO_MANY_STEPS = 5;
    private static final int TOO_MANY_LOOPS = 6;
    private static final int GOES_DOWN = 7;
    private static final int NOT_TO_PEEL = 8;
    private static final int TWO_CODES = 9;
    private static final int SETS_OR_MARKS = 10;
    private static final int LOOKS_WITH_WRITTEN = 11;

    private static final int MOST_CASE_NUMBERS = 6;
    private static final int MOST_CASE_VALUES = 4;
    private static final int MOST_CASES = 1024;

    private static final int RAN_FACTS = 5;
    private static final long DIGEST_START = 373;

    /** Null from programCount on. */
    private final Program[] made = new Program[MOST_PROGRAMS];
    private int programCount = 0;
    private final long[] row = new long[MOST_NUMBERS];
    private int rowLength = 0;
    private final Runner latest = new Runner();

    /** Apart from the latest run, which proofs by cases must leave as it is. */
    private final Runner firstProver = new Runner();
    private final Runner secondProver = new Runner();
    private final Cases cases = new Cases();

    public LoopJoiner() {
    }

    // ---- programs

    public int addProgram() throws IllegalStateException {
        refuseEleventhProgram();
        return keepProgram(new Program());
    }

    public int addLoop(int program, int skip, int stop, boolean isUp)
            throws IndexOutOfBoundsException, IllegalArgumentException, IllegalStateException {
        Program found = programAt(program);
        if (!isBetween(skip, 0, MOST_SKIP) || !isBetween(stop, 0, MOST_SKIP)) {
            throw new IllegalArgumentException("skip and stop are 0 to 5");
        }
        if (found.countLoops() >= MOST_LOOPS) {
            throw new IllegalStateException("there are 8 loops");
        }
        return found.appendLoop(skip, stop, isUp);
    }

    public int addStep(int program, int loop, int look, int with, int deed, int of)
            throws IndexOutOfBoundsException, IllegalArgumentException, IllegalStateException {
        Program found = programAt(program);
        refuseOtherLoops(found, loop);
        if (!isLook(look, with) || !isDeed(deed, of)) {
            throw new IllegalArgumentException("no such step");
        }
        if (found.countSteps(loop) >= MOST_STEPS) {
            throw new IllegalStateException("there are 6 steps");
        }
        return found.appendStep(loop, look, with, deed, of);
    }

    public int loop(int program, int loop, int what) throws IndexOutOfBoundsException {
        Program found = programAt(program);
        refuseOtherLoops(found, loop);
        if (!isBetween(what, 0, LOOP_FACTS - 1)) {
            throw new IndexOutOfBoundsException("what is 0 to 3");
        }
        return found.loopFact(loop, what);
    }

    public int step(int program, int loop, int step, int what) throws IndexOutOfBoundsException {
        Program found = programAt(program);
        refuseOtherLoops(found, loop);
        if (!isBetween(step, 0, found.countSteps(loop) - 1)) {
            throw new IndexOutOfBoundsException("no such step");
        }
        if (!isBetween(what, 0, STEP_FACTS - 1)) {
            throw new IndexOutOfBoundsException("what is 0 to 3");
        }
        return found.stepFact(loop, step, what);
    }

    public int programs() {
        return programCount;
    }

    public int loops(int program) throws IndexOutOfBoundsException {
        return programAt(program).countLoops();
    }

    // ---- running

    public int put(long value) throws IllegalStateException {
        if (rowLength < 0 || rowLength >= row.length) {
            throw new IllegalStateException("the row has 40 numbers");
        }
        row[rowLength] = value;
        rowLength++;
        return rowLength;
    }

    public int empty() {
        int had = rowLength;
        rowLength = 0;
        return had;
    }

    public int run(int program) throws IndexOutOfBoundsException {
        Program found = programAt(program);
        latest.goThrough(found, row, rowLength);
        return latest.codeOfExit();
    }

    public long ran(int what) throws IndexOutOfBoundsException {
        if (!isBetween(what, 0, RAN_FACTS - 1)) {
            throw new IndexOutOfBoundsException("what is 0 to 4");
        }
        return latest.fact(what);
    }

    // ---- changes

    public int reason(int program, int change, int loop, int with)
            throws IndexOutOfBoundsException, IllegalArgumentException {
        Program found = programAt(program);
        refuseOtherChanges(found, change, loop, with);
        return Reasons.against(found, change, loop, with);
    }

    public int change(int program, int change, int loop, int with)
            throws IndexOutOfBoundsException, IllegalArgumentException, IllegalStateException {
        Program found = programAt(program);
        refuseOtherChanges(found, change, loop, with);
        if (Reasons.against(found, change, loop, with) != 0) {
            throw new IllegalStateException("there is a reason against it");
        }
        refuseEleventhProgram();
        Program fresh = new Program();
        fresh.becomeLike(found);
        fresh.makeChange(change, loop, with);
        return keepProgram(fresh);
    }

    public int joinAll(int program) throws IndexOutOfBoundsException {
        Program found = programAt(program);
        int joins = 0;
        while (joins < MOST_LOOPS) {
            int k = firstToJoin(found);
            if (k < 0) {
                return joins;
            }
            found.joinWithNext(k);
            joins++;
        }
        return joins;
    }

    // ---- proofs by cases

    public int differ(int a, int b, int n, int v)
            throws IndexOutOfBoundsException, IllegalArgumentException {
        Program first = programAt(a);
        Program second = programAt(b);
        int rows = checkedRows(n, v);
        int different = 0;
        cases.begin(n, v);
        for (int number = 0; number < rows; number++) {
            if (!answerTheSame(first, second)) {
                different++;
            }
            cases.goOn();
        }
        return different;
    }

    public int firstCase(int a, int b, int n, int v)
            throws IndexOutOfBoundsException, IllegalArgumentException {
        Program first = programAt(a);
        Program second = programAt(b);
        int rows = checkedRows(n, v);
        cases.begin(n, v);
        for (int number = 0; number < rows; number++) {
            if (!answerTheSame(first, second)) {
                return number;
            }
            cases.goOn();
        }
        return -1;
    }

    public int cost(int program, int n, int v, boolean isMost)
            throws IndexOutOfBoundsException, IllegalArgumentException {
        Program found = programAt(program);
        int rows = checkedRows(n, v);
        int most = 0;
        int sum = 0;
        cases.begin(n, v);
        for (int number = 0; number < rows; number++) {
            firstProver.goThrough(found, cases.digits, cases.length);
            int looks = firstProver.countLooks();
            most = looks > most ? looks : most;
            sum += looks;
            cases.goOn();
        }
        return isMost ? most : sum;
    }

    public double exits(int program, int n, int v)
            throws IndexOutOfBoundsException, IllegalArgumentException {
        Program found = programAt(program);
        int rows = checkedRows(n, v);
        int left = 0;
        cases.begin(n, v);
        for (int number = 0; number < rows; number++) {
            firstProver.goThrough(found, cases.digits, cases.length);
            if (firstProver.codeOfExit() != NOT_LEFT) {
                left++;
            }
            cases.goOn();
        }
        return rows > 0 ? (double) left / (double) rows : 0.0;
    }

    public long digest() {
        long d = mix(DIGEST_START, programCount);
        for (int i = 0; i < programCount && i < made.length; i++) {
            Program each = made[i];
            if (each != null) {
                d = each.mixInto(d);
            }
        }
        d = mix(d, rowLength);
        for (int i = 0; i < rowLength && i < row.length; i++) {
            d = mix(d, row[i]);
        }
        for (int what = 0; what < RAN_FACTS; what++) {
            d = mix(d, latest.fact(what));
        }
        return d;
    }

    // ---- what the calls share

    private Program programAt(int number) {
        Program found = number >= 0 && number < made.length ? made[number] : null;
        if (found == null) {
            throw new IndexOutOfBoundsException("no such program");
        }
        return found;
    }

    private void refuseEleventhProgram() {
        if (programCount >= MOST_PROGRAMS) {
            throw new IllegalStateException("there are 10 programs");
        }
    }

    private int keepProgram(Program fresh) {
        int number = programCount;
        if (number >= 0 && number < made.length) {
            made[number] = fresh;
            programCount = number + 1;
        }
        return number;
    }

    private static void refuseOtherLoops(Program program, int loop) {
        if (!isBetween(loop, 0, program.countLoops() - 1)) {
            throw new IndexOutOfBoundsException("no such loop");
        }
    }

    private static void refuseOtherChanges(Program program, int change, int loop, int with) {
        if (!isBetween(change, JOIN, STRIP)) {
            throw new IndexOutOfBoundsException("no such change");
        }
        if (!isBetween(loop, 0, lastLoopFor(program, change))) {
            throw new IndexOutOfBoundsException("no such loop for this change");
        }
        if (!isWith(program, change, loop, with)) {
            throw new IllegalArgumentException("with is not one for this change");
        }
    }

    private static int lastLoopFor(Program program, int change) {
        if (change == STRIP) {
            return 0;
        }
        int last = program.countLoops() - 1;
        return change == JOIN || change == SWAP ? last - 1 : last;
    }

    private static boolean isWith(Program program, int change, int loop, int with) {
        if (change == DIVIDE) {
            return isBetween(with, 1, program.countSteps(loop) - 1);
        }
        if (change == PEEL) {
            return isBetween(with, 1, MOST_PEELED);
        }
        return with == 0;
    }

    private static int firstToJoin(Program program) {
        for (int k = 0; k < program.countLoops() - 1; k++) {
            if (Reasons.againstJoin(program, k) == 0) {
                return k;
            }
        }
        return -1;
    }

    private static boolean isLook(int look, int with) {
        return isBetween(look, ALWAYS, GREATER)
                && (isBetween(with, -MOST_CONSTANT, MOST_CONSTANT) || isVariable(with));
    }

    private static boolean isVariable(int with) {
        return with >= FIRST_VARIABLE && with < FIRST_VARIABLE + VARIABLES;
    }

    private static boolean isDeed(int deed, int of) {
        if (deed == BREAK) {
            return of == 0;
        }
        if (deed == EXIT) {
            return isBetween(of, 0, MOST_CODE);
        }
        return isBetween(deed, SET, ADD) && isBetween(of, 0, VARIABLES - 1);
    }

    private static int checkedRows(int n, int v) {
        if (!isBetween(n, 0, MOST_CASE_NUMBERS) || !isBetween(v, 1, MOST_CASE_VALUES)) {
            throw new IllegalArgumentException("n is 0 to 6 and v is 1 to 4");
        }
        int rows = 1;
        for (int i = 0; i < n; i++) {
            rows *= v;
        }
        if (rows > MOST_CASES) {
            throw new IllegalArgumentException("there are more than 1024 rows");
        }
        return rows;
    }

    private boolean answerTheSame(Program first, Program second) {
        firstProver.goThrough(first, cases.digits, cases.length);
        secondProver.goThrough(second, cases.digits, cases.length);
        return firstProver.answersLike(secondProver);
    }

    private static boolean isBetween(int number, int least, int most) {
        return number >= least && number <= most;
    }

    private static long mix(long d, long x) {
        return d * 31 + x;
    }

    /** A row of loops, each with its steps. */
    private static final class Program {
        private static final int CELLS = LOOP_FACTS + MOST_STEPS * STEP_FACTS;

        /** A loop's facts and behind them its steps' facts, loop by loop; free behind the last one. */
        private final int[] cells = new int[MOST_LOOPS * CELLS];
        private int loopCount = 0;

        private int read(int at) {
            return at >= 0 && at < cells.length ? cells[at] : 0;
        }

        private void write(int at, int value) {
            if (at >= 0 && at < cells.length) {
                cells[at] = value;
            }
        }

        private static int placeOf(int loop, int step) {
            return loop * CELLS + LOOP_FACTS + step * STEP_FACTS;
        }

        int countLoops() {
            return loopCount;
        }

        int loopFact(int loop, int what) {
            return read(loop * CELLS + what);
        }

        int countSteps(int loop) {
            return loopFact(loop, STEPS);
        }

        int stepFact(int loop, int step, int what) {
            int at = loop * CELLS + LOOP_FACTS + step * STEP_FACTS + what;
            return at >= 0 && at < cells.length ? cells[at] : 0;
        }

        private void setLoopFact(int loop, int what, int value) {
            write(loop * CELLS + what, value);
        }

        int appendLoop(int skip, int stop, boolean isUp) {
            int loop = loopCount;
            setLoopFact(loop, SKIP, skip);
            setLoopFact(loop, STOP, stop);
            setLoopFact(loop, UP, isUp ? 1 : 0);
            setLoopFact(loop, STEPS, 0);
            loopCount = loop + 1;
            return loop;
        }

        int appendStep(int loop, int look, int with, int deed, int of) {
            int step = countSteps(loop);
            int place = placeOf(loop, step);
            write(place + LOOK, look);
            write(place + WITH, with);
            write(place + DEED, deed);
            write(place + OF, of);
            setLoopFact(loop, STEPS, step + 1);
            return step;
        }

        void becomeLike(Program other) {
            for (int at = 0; at < cells.length; at++) {
                cells[at] = other.read(at);
            }
            loopCount = other.loopCount;
        }

        void makeChange(int change, int k, int with) {
            switch (change) {
                case JOIN:
                    joinWithNext(k);
                    break;
                case DIVIDE:
                    divideAt(k, with);
                    break;
                case PEEL:
                    peelFirstPlace(k, with);
                    break;
                case TURN:
                    setLoopFact(k, UP, 1 - loopFact(k, UP));
                    break;
                case SWAP:
                    swapWithNext(k);
                    break;
                default:
                    stripAll();
                    break;
            }
        }

        void joinWithNext(int k) {
            int steps = countSteps(k);
            int others = countSteps(k + 1);
            for (int step = 0; step < others; step++) {
                copyStep(k + 1, step, k, steps + step);
            }
            setLoopFact(k, STEPS, steps + others);
            removeLoop(k + 1);
        }

        private void divideAt(int k, int i) {
            int steps = countSteps(k);
            repeatLoop(k);
            setLoopFact(k, STEPS, i);
            for (int step = i; step < steps; step++) {
                copyStep(k + 1, step, k + 1, step - i);
            }
            setLoopFact(k + 1, STEPS, steps - i);
        }

        private void peelFirstPlace(int k, int n) {
            int skip = loopFact(k, SKIP);
            repeatLoop(k);
            setLoopFact(k, STOP, n - 1 - skip);
            setLoopFact(k + 1, SKIP, skip + 1);
        }

        private void swapWithNext(int k) {
            int start = k * CELLS;
            for (int at = start; at < start + CELLS; at++) {
                int kept = read(at);
                write(at, read(at + CELLS));
                write(at + CELLS, kept);
            }
        }

        private void stripAll() {
            for (int k = loopCount - 1; k >= 0; k--) {
                setLoopFact(k, STEPS, countReachedSteps(k));
                if (countSteps(k) == 0) {
                    removeLoop(k);
                }
            }
        }

        private int countReachedSteps(int k) {
            int steps = countSteps(k);
            for (int step = 0; step < steps; step++) {
                int deed = stepFact(k, step, DEED);
                if (stepFact(k, step, LOOK) == ALWAYS && (deed == BREAK || deed == EXIT)) {
                    return step + 1;
                }
            }
            return steps;
        }

        private void copyStep(int fromLoop, int fromStep, int toLoop, int toStep) {
            int from = placeOf(fromLoop, fromStep);
            int to = placeOf(toLoop, toStep);
            for (int what = 0; what < STEP_FACTS; what++) {
                write(to + what, read(from + what));
            }
        }

        private void removeLoop(int k) {
            for (int at = k * CELLS; at < (loopCount - 1) * CELLS; at++) {
                write(at, read(at + CELLS));
            }
            loopCount--;
        }

        /** Puts a second one like the loop k behind it. */
        private void repeatLoop(int k) {
            for (int at = loopCount * CELLS - 1; at >= k * CELLS; at--) {
                write(at + CELLS, read(at));
            }
            loopCount++;
        }

        long mixInto(long start) {
            long d = mix(start, loopCount);
            for (int k = 0; k < loopCount; k++) {
                for (int what = 0; what < LOOP_FACTS; what++) {
                    d = mix(d, loopFact(k, what));
                }
                int end = placeOf(k, countSteps(k));
                for (int at = placeOf(k, 0); at < end; at++) {
                    d = mix(d, read(at));
                }
            }
            return d;
        }
    }

    /** Why a change may not be made; sets of variables are masks, a bit for each variable. */
    private static final class Reasons {
        static int against(Program program, int change, int k, int with) {
            switch (change) {
                case JOIN:
                    return againstJoin(program, k);
                case DIVIDE:
                    return againstDivide(program, k, with);
                case PEEL:
                    return againstPeel(program, k, with);
                case TURN:
                    return againstTurn(program, k);
                case SWAP:
                    return againstParts(program, k, program.countSteps(k), k + 1, 0);
                default:
                    return 0;
            }
        }

        static int againstJoin(Program program, int k) {
            if (!haveSameRange(program, k)) {
                return OTHER_RANGES;
            }
            if (hasBreak(program, k) || hasBreak(program, k + 1)) {
                return HAS_BREAK;
            }
            int parts = againstParts(program, k, program.countSteps(k), k + 1, 0);
            if (parts != 0) {
                return parts;
            }
            int steps = program.countSteps(k) + program.countSteps(k + 1);
            return steps > MOST_STEPS ? TOO_MANY_STEPS : 0;
        }

        private static int againstDivide(Program program, int k, int i) {
            if (hasBreak(program, k)) {
                return HAS_BREAK;
            }
            int parts = againstParts(program, k, i, k, i);
            if (parts != 0) {
                return parts;
            }
            return program.countLoops() >= MOST_LOOPS ? TOO_MANY_LOOPS : 0;
        }

        private static int againstPeel(Program program, int k, int n) {
            int skip = program.loopFact(k, SKIP);
            int stop = program.loopFact(k, STOP);
            if (program.loopFact(k, UP) == 0) {
                return GOES_DOWN;
            }
            if (skip + stop > n - 1 || n - 1 - skip > MOST_SKIP || skip + 1 > MOST_SKIP) {
                return NOT_TO_PEEL;
            }
            if (hasBreak(program, k)) {
                return HAS_BREAK;
            }
            return program.countLoops() >= MOST_LOOPS ? TOO_MANY_LOOPS : 0;
        }

        private static int againstTurn(Program program, int k) {
            int steps = program.countSteps(k);
            if (hasBreak(program, k)) {
                return HAS_BREAK;
            }
            if (hasTwoCodes(program, k)) {
                return TWO_CODES;
            }
            if (hasDeed(program, k, 0, steps, SET) || hasDeed(program, k, 0, steps, MARK)) {
                return SETS_OR_MARKS;
            }
            int both = lookedWithBy(program, k, 0, steps) & writtenBy(program, k, 0, steps);
            return both != 0 ? LOOKS_WITH_WRITTEN : 0;
        }

        /** The parts are the steps of the loop k ahead of end, and those of the loop other from start on. */
        private static int againstParts(Program program, int k, int end, int other, int start) {
            int steps = program.countSteps(other);
            if (hasDeed(program, k, 0, end, EXIT) && hasDeed(program, other, start, steps, EXIT)) {
                return BOTH_EXIT;
            }
            // COUNT and ADD read just what they write, so that beside the writes the looks are enough.
            int writes = writtenBy(program, k, 0, end);
            int looks = lookedWithBy(program, k, 0, end);
            int otherWrites = writtenBy(program, other, start, steps);
            int otherLooks = lookedWithBy(program, other, start, steps);
            boolean areApart = (writes & (otherWrites | otherLooks)) == 0 && (otherWrites & looks) == 0;
            return areApart ? 0 : NOT_APART;
        }

        private static boolean haveSameRange(Program program, int k) {
            return program.loopFact(k, SKIP) == program.loopFact(k + 1, SKIP)
                    && program.loopFact(k, STOP) == program.loopFact(k + 1, STOP)
                    && program.loopFact(k, UP) == program.loopFact(k + 1, UP);
        }

        private static boolean hasBreak(Program program, int k) {
            return hasDeed(program, k, 0, program.countSteps(k), BREAK);
        }

        private static boolean hasDeed(Program program, int k, int from, int end, int deed) {
            for (int step = from; step < end; step++) {
                if (program.stepFact(k, step, DEED) == deed) {
                    return true;
                }
            }
            return false;
        }

        private static boolean hasTwoCodes(Program program, int k) {
            int steps = program.countSteps(k);
            int code = NOT_LEFT;
            for (int step = 0; step < steps; step++) {
                if (program.stepFact(k, step, DEED) == EXIT) {
                    int next = program.stepFact(k, step, OF);
                    if (code != NOT_LEFT && code != next) {
                        return true;
                    }
                    code = next;
                }
            }
            return false;
        }

        private static int writtenBy(Program program, int k, int from, int end) {
            int written = 0;
            for (int step = from; step < end; step++) {
                int deed = program.stepFact(k, step, DEED);
                if (deed != BREAK && deed != EXIT) {
                    written |= 1 << program.stepFact(k, step, OF);
                }
            }
            return written;
        }

        private static int lookedWithBy(Program program, int k, int from, int end) {
            int looked = 0;
            for (int step = from; step < end; step++) {
                int with = program.stepFact(k, step, WITH);
                if (program.stepFact(k, step, LOOK) != ALWAYS && isVariable(with)) {
                    looked |= 1 << (with - FIRST_VARIABLE);
                }
            }
            return looked;
        }
    }

    /** A run and what it leaves behind. */
    private static final class Runner {
        private final long[] variables = new long[VARIABLES];
        private int looks = 0;
        private int code = NOT_LEFT;

        int codeOfExit() {
            return code;
        }

        int countLooks() {
            return looks;
        }

        /** As ran() numbers them. */
        long fact(int what) {
            return what == VARIABLES ? looks : variable(what);
        }

        boolean answersLike(Runner other) {
            if (code != other.code) {
                return false;
            }
            if (code != NOT_LEFT) {
                return true;
            }
            for (int v = 0; v < VARIABLES; v++) {
                if (variable(v) != other.variable(v)) {
                    return false;
                }
            }
            return true;
        }

        void goThrough(Program program, long[] row, int length) {
            for (int v = 0; v < variables.length; v++) {
                variables[v] = 0;
            }
            looks = 0;
            code = NOT_LEFT;
            for (int k = 0; k < program.countLoops() && code == NOT_LEFT; k++) {
                goThroughLoop(program, k, row, length);
            }
        }

        private void goThroughLoop(Program program, int k, long[] row, int length) {
            int first = program.loopFact(k, SKIP);
            int last = length - 1 - program.loopFact(k, STOP);
            boolean isUp = program.loopFact(k, UP) == 1;
            for (int i = first; i <= last; i++) {
                int place = isUp ? i : last - (i - first);
                long number = place >= 0 && place < row.length ? row[place] : 0;
                if (!doSteps(program, k, place, number)) {
                    return;
                }
            }
        }

        /** Returns whether the loop goes on to its next place. */
        private boolean doSteps(Program program, int k, int place, long number) {
            int steps = program.countSteps(k);
            for (int step = 0; step < steps; step++) {
                looks++;
                if (holds(program.stepFact(k, step, LOOK), program.stepFact(k, step, WITH), number)) {
                    int deed = program.stepFact(k, step, DEED);
                    int of = program.stepFact(k, step, OF);
                    if (deed == BREAK) {
                        return false;
                    }
                    if (deed == EXIT) {
                        code = of;
                        return false;
                    }
                    doDeed(deed, of, place, number);
                }
            }
            return true;
        }

        private boolean holds(int look, int with, long number) {
            long other = isVariable(with) ? variable(with - FIRST_VARIABLE) : with;
            switch (look) {
                case ALWAYS:
                    return true;
                case EQUAL:
                    return number == other;
                case OTHER:
                    return number != other;
                case LESS:
                    return number < other;
                default:
                    return number > other;
            }
        }

        private void doDeed(int deed, int v, int place, long number) {
            switch (deed) {
                case SET:
                    setVariable(v, number);
                    break;
                case MARK:
                    setVariable(v, place);
                    break;
                case COUNT:
                    setVariable(v, variable(v) + 1);
                    break;
                default:
                    setVariable(v, variable(v) + number);
                    break;
            }
        }

        private long variable(int v) {
            return v >= 0 && v < variables.length ? variables[v] : 0;
        }

        private void setVariable(int v, long value) {
            if (v >= 0 && v < variables.length) {
                variables[v] = value;
            }
        }
    }

    /** All rows of some numbers, one after the other: a number in a base, counted upwards. */
    private static final class Cases {
        private final long[] digits = new long[MOST_CASE_NUMBERS];
        private int length = 0;
        private int greatestDigit = 0;

        void begin(int n, int v) {
            length = n;
            greatestDigit = v - 1;
            for (int i = 0; i < digits.length; i++) {
                digits[i] = 0;
            }
        }

        void goOn() {
            for (int i = length - 1; i >= 0 && i < digits.length; i--) {
                if (digits[i] < greatestDigit) {
                    digits[i]++;
                    return;
                }
                digits[i] = 0;
            }
        }
    }
}
