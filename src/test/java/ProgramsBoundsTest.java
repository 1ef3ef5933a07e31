/** Each sentence of the promises 1 to 8 that names a boundary: below it, at it, beyond it. */
public final class ProgramsBoundsTest extends Bench {
    private static final int[] COUNT_STEP = {ALWAYS, 0, COUNT, 0};

    public static void main(String[] args) {
        runAll(ProgramsBoundsTest.class, 1, 8);
    }

    // ---- promise 1

    @Sentence(promise = 1, value = "without programs")
    private static void newHasNoPrograms() {
        Desk desk = new Desk();
        desk.answersAlone(0, LoopJoiner::programs);
        for (int program : new int[] {-1, 0, 1, 9, 10}) {
            desk.refused(INDEX, j -> j.loops(program));
        }
        desk.answers(0, LoopJoiner::addProgram);
    }

    @Sentence(promise = 1, value = "with an empty row")
    private static void newHasEmptyRow() {
        new Desk().answers(0, LoopJoiner::empty);
        new Desk().answers(1, j -> j.put(7));
        Desk desk = new Desk();
        desk.program(all(COUNT_STEP));
        desk.runs(0, -1, 0, 0, 0, 0, 0);
    }

    @Sentence(promise = 1, value = "Creates a joiner: each one of its own")
    private static void newSharesNothing() {
        Desk first = new Desk();
        first.program(all(COUNT_STEP));
        first.row(1, 2, 3);
        first.runs(0, -1, 3, 0, 0, 0, 3);
        Desk second = new Desk();
        second.answers(0, LoopJoiner::programs);
        second.ran(0, 0, 0, 0, 0);
        second.answers(0, LoopJoiner::empty);
        second.program(all());
        first.holds(0, all(COUNT_STEP));
        first.ran(3, 0, 0, 0, 3);
        first.answers(3, LoopJoiner::empty);
    }

    @Sentence(promise = 1, value = "An object is used for at most 512 calls")
    private static void answersTo512Calls() {
        Desk desk = new Desk();
        desk.program(all(COUNT_STEP), all(ALWAYS, 0, ADD, 1));
        desk.row(4, 5);
        while (desk.countCalls() < 509) {
            desk.answers(desk.countCalls() % 2 == 0 ? -1 : 2, desk.countCalls() % 2 == 0 ? j -> j.run(0) : j -> j.loops(0));
        }
        desk.answers(-1, j -> j.run(0));
        desk.answers(9, j -> j.ran(1));
        desk.answers(4, j -> j.ran(4));
        checks.same(place() + " calls", desk.countCalls(), 512);
    }

    // ---- promise 2

    @Sentence(promise = 2, value = "There are at most 10, numbered from 0 in the order of their creation")
    private static void numbersPrograms() {
        Desk desk = new Desk();
        for (int number = 0; number < 10; number++) {
            int due = number;
            desk.answers(due, LoopJoiner::addProgram);
            desk.answers(due + 1, LoopJoiner::programs);
        }
    }

    @Sentence(promise = 2, value = "Throws IllegalStateException if there are 10")
    private static void refusesEleventhProgram() {
        Desk desk = new Desk();
        for (int count = 0; count < 10; count++) {
            desk.program(filledTo(count % 3));
        }
        desk.refused(STATE, LoopJoiner::addProgram);
        desk.refused(STATE, LoopJoiner::addProgram);
        desk.answers(10, LoopJoiner::programs);
        desk.refused(INDEX, j -> j.loops(10));
        desk.answers(0, j -> j.loops(9));
        desk.answers(0, j -> j.addLoop(9, 0, 0, true));
    }

    @Sentence(promise = 2, value = "Throws IllegalStateException if there are 10, changed ones too")
    private static void countsChangedPrograms() {
        Desk desk = new Desk();
        for (int count = 0; count < 8; count++) {
            desk.program();
        }
        desk.answers(8, j -> j.change(0, STRIP, 0, 0));
        desk.answers(9, LoopJoiner::addProgram);
        desk.refused(STATE, LoopJoiner::addProgram);
        Desk other = new Desk();
        for (int count = 0; count < 9; count++) {
            other.program();
        }
        other.answers(9, j -> j.change(0, STRIP, 0, 0));
        other.refused(STATE, LoopJoiner::addProgram);
    }

    @Sentence(promise = 2, value = "Adds a program without loops")
    private static void addsEmptyPrograms() {
        Desk desk = new Desk();
        desk.program(filledTo(8));
        for (int number = 1; number < 10; number++) {
            int added = number;
            desk.answers(added, LoopJoiner::addProgram);
            desk.answers(0, j -> j.loops(added));
            desk.refused(INDEX, j -> j.loop(added, 0, 0));
        }
        desk.answers(8, j -> j.loops(0));
    }

    // ---- promise 3

    @Sentence(promise = 3, value = "Throws IndexOutOfBoundsException if there is no such program")
    private static void addLoopTakesPrograms() {
        takesProgramsThatAre((j, program) -> j.addLoop(program, 0, 0, true));
    }

    @Sentence(promise = 3, value = "Throws IllegalArgumentException if skip is not 0 to 5")
    private static void addLoopTakesSkips() {
        Desk desk = new Desk();
        desk.program();
        for (int bad : beyond(0, 5)) {
            desk.refused(ARGUMENT, j -> j.addLoop(0, bad, 0, true));
            desk.refused(ARGUMENT, j -> j.addLoop(0, bad, 5, false));
        }
        for (int skip = 0; skip <= 5; skip++) {
            int good = skip;
            desk.answers(good, j -> j.addLoop(0, good, 0, true));
            desk.answers(good, j -> j.loop(0, good, 0));
        }
    }

    @Sentence(promise = 3, value = "Throws IllegalArgumentException if stop is not 0 to 5")
    private static void addLoopTakesStops() {
        Desk desk = new Desk();
        desk.program();
        for (int bad : beyond(0, 5)) {
            desk.refused(ARGUMENT, j -> j.addLoop(0, 0, bad, true));
            desk.refused(ARGUMENT, j -> j.addLoop(0, 5, bad, false));
        }
        for (int stop = 0; stop <= 5; stop++) {
            int good = stop;
            desk.answers(good, j -> j.addLoop(0, 0, good, true));
            desk.answers(good, j -> j.loop(0, good, 1));
        }
    }

    @Sentence(promise = 3, value = "A loop has a skip, 0 to 5, a stop, 0 to 5, and a direction, up or down")
    private static void addLoopKeepsAllKinds() {
        for (int direction : new int[] {UP, DOWN}) {
            for (int skip = 0; skip <= 5; skip++) {
                int each = skip;
                Desk desk = new Desk();
                desk.program();
                for (int stop = 0; stop <= 5; stop++) {
                    int other = stop;
                    desk.answers(other, j -> j.addLoop(0, each, other, direction == UP));
                }
                desk.holds(0, loop(skip, 0, direction), loop(skip, 1, direction), loop(skip, 2, direction),
                        loop(skip, 3, direction), loop(skip, 4, direction), loop(skip, 5, direction));
            }
        }
    }

    @Sentence(promise = 3, value = "Throws IllegalStateException if there are 8 loops")
    private static void refusesNinthLoop() {
        Desk desk = new Desk();
        desk.program();
        desk.program();
        for (int number = 0; number < 8; number++) {
            int due = number;
            desk.answers(due, j -> j.addLoop(0, 1, 2, false));
        }
        desk.refused(STATE, j -> j.addLoop(0, 0, 0, true));
        desk.refused(STATE, j -> j.addLoop(0, 5, 5, false));
        desk.answers(8, j -> j.loops(0));
        desk.answers(0, j -> j.loops(1));
        for (int number = 0; number < 8; number++) {
            int due = number;
            desk.answers(due, j -> j.addLoop(1, 0, 0, true));
        }
        desk.refused(STATE, j -> j.addLoop(1, 0, 0, true));
    }

    @Sentence(promise = 3, value = "Throws IllegalStateException if there are 8 loops: after changes, too")
    private static void countsLoopsOfChanges() {
        Desk desk = new Desk();
        desk.program(filledTo(7, all(ALWAYS, 0, COUNT, 0, ALWAYS, 0, COUNT, 1)));
        desk.answers(1, j -> j.change(0, DIVIDE, 0, 1));
        desk.refused(STATE, j -> j.addLoop(1, 0, 0, true));
        desk.answers(2, j -> j.change(0, PEEL, 0, 3));
        desk.refused(STATE, j -> j.addLoop(2, 0, 0, true));
        desk.answers(7, j -> j.addLoop(0, 0, 0, true));
        desk.refused(STATE, j -> j.addLoop(0, 0, 0, true));
        desk.answers(3, j -> j.change(0, JOIN, 6, 0));
        desk.answers(7, j -> j.addLoop(3, 0, 0, true));
        desk.refused(STATE, j -> j.addLoop(3, 0, 0, true));
        desk.answers(4, j -> j.change(0, STRIP, 0, 0));
        desk.answers(1, j -> j.addLoop(4, 0, 0, true));
        desk.answers(7, j -> j.joinAll(0));
        desk.answers(1, j -> j.addLoop(0, 0, 0, true));
    }

    @Sentence(promise = 3, value = "Adds a loop without steps behind the others")
    private static void addsEmptyLoops() {
        Desk desk = new Desk();
        int[] full = loop(4, 3, DOWN, repeated(6, COUNT_STEP));
        desk.program(full);
        desk.answers(1, j -> j.addLoop(0, 2, 1, true));
        desk.holds(0, full, loop(2, 1, UP));
        desk.answers(2, j -> j.addLoop(0, 0, 5, false));
        desk.holds(0, full, loop(2, 1, UP), loop(0, 5, DOWN));
    }

    @Sentence(promise = 3, value = "Adds a loop without steps: where a loop with steps was before, too")
    private static void addsEmptyLoopsWhereOthersWere() {
        int[] first = all(repeated(3, COUNT_STEP));
        int[] second = all(repeated(3, ALWAYS, 0, COUNT, 1));
        int[] both = all(ALWAYS, 0, COUNT, 0, ALWAYS, 0, COUNT, 0, ALWAYS, 0, COUNT, 0,
                ALWAYS, 0, COUNT, 1, ALWAYS, 0, COUNT, 1, ALWAYS, 0, COUNT, 1);
        Desk desk = new Desk();
        desk.program(all(), first, second);
        desk.answers(1, j -> j.change(0, JOIN, 1, 0));
        desk.answers(2, j -> j.change(0, STRIP, 0, 0));
        desk.answers(2, j -> j.joinAll(0));
        for (int program : new int[] {0, 1, 2}) {
            int due = program == 0 ? 1 : 2;
            desk.answers(due, j -> j.addLoop(program, 2, 3, false));
        }
        desk.holds(0, both, loop(2, 3, DOWN));
        desk.holds(1, all(), both, loop(2, 3, DOWN));
        desk.holds(2, first, second, loop(2, 3, DOWN));
        desk.answers(0, j -> j.addStep(2, 2, ALWAYS, 0, MARK, 3));
    }

    @Sentence(promise = 3, value = "the exception that is named first: no program, then skip and stop, then 8 loops")
    private static void addLoopRefusesInOrder() {
        Desk desk = new Desk();
        desk.program(filledTo(8));
        desk.refused(INDEX, j -> j.addLoop(1, 6, 0, true));
        desk.refused(INDEX, j -> j.addLoop(-1, 0, -1, true));
        desk.refused(ARGUMENT, j -> j.addLoop(0, 6, 0, true));
        desk.refused(ARGUMENT, j -> j.addLoop(0, -1, 0, true));
        desk.refused(ARGUMENT, j -> j.addLoop(0, 0, 6, true));
        desk.refused(ARGUMENT, j -> j.addLoop(0, 0, -1, true));
        desk.refused(STATE, j -> j.addLoop(0, 5, 5, true));
    }

    // ---- promise 4

    @Sentence(promise = 4, value = "Throws IndexOutOfBoundsException if there is no such program")
    private static void addStepTakesPrograms() {
        takesProgramsThatAre((j, program) -> j.addStep(program, 0, ALWAYS, 0, COUNT, 0));
    }

    @Sentence(promise = 4, value = "Throws IndexOutOfBoundsException if there is no such loop")
    private static void addStepTakesLoops() {
        takesLoopsThatAre((j, loop) -> j.addStep(0, loop, ALWAYS, 0, COUNT, 0));
    }

    @Sentence(promise = 4, value = "Throws IllegalArgumentException if look is not 0 to 4")
    private static void addStepTakesLooks() {
        Desk desk = new Desk();
        desk.program(all());
        for (int bad : beyond(0, 4)) {
            desk.refused(ARGUMENT, j -> j.addStep(0, 0, bad, 0, COUNT, 0));
            desk.refused(ARGUMENT, j -> j.addStep(0, 0, bad, 1000, BREAK, 0));
        }
        for (int look = 0; look <= 4; look++) {
            int good = look;
            desk.answers(good, j -> j.addStep(0, 0, good, 0, COUNT, 0));
            desk.answers(good, j -> j.step(0, 0, good, 0));
        }
    }

    @Sentence(promise = 4, value = "with is neither -100 to 100 nor 1000 to 1003: for looks of every sort")
    private static void addStepRefusesOtherWiths() {
        for (int look = ALWAYS; look <= GREATER; look++) {
            int each = look;
            Desk desk = new Desk();
            desk.program(all());
            for (int bad : new int[] {-101, 101, 999, 1004, 500, -1000, -1003, 1100, Integer.MIN_VALUE, Integer.MAX_VALUE}) {
                desk.refused(ARGUMENT, j -> j.addStep(0, 0, each, bad, COUNT, 0));
            }
            int[] good = {-100, 100, 1000, 1003, 0};
            for (int s = 0; s < good.length; s++) {
                int with = good[s];
                int step = s;
                desk.answers(step, j -> j.addStep(0, 0, each, with, COUNT, 0));
                desk.answers(with, j -> j.step(0, 0, step, 1));
            }
        }
    }

    @Sentence(promise = 4, value = "the constant, -100 to 100, or 1000 and the variable: each one of them")
    private static void addStepKeepsAllWiths() {
        for (int first = -100; first <= 100; first += 6) {
            Desk desk = new Desk();
            desk.program(all());
            for (int s = 0; s < 6 && first + s <= 100; s++) {
                int step = s;
                int with = first + s;
                desk.answers(step, j -> j.addStep(0, 0, EQUAL, with, COUNT, 0));
                desk.answers(with, j -> j.step(0, 0, step, 1));
            }
        }
        Desk desk = new Desk();
        desk.program(all());
        for (int s = 0; s < 4; s++) {
            int step = s;
            desk.answers(step, j -> j.addStep(0, 0, EQUAL, 1000 + step, COUNT, 0));
            desk.answers(1000 + step, j -> j.step(0, 0, step, 1));
        }
    }

    @Sentence(promise = 4, value = "deed is not 0 to 5")
    private static void addStepTakesDeeds() {
        Desk desk = new Desk();
        desk.program(all());
        for (int bad : beyond(0, 5)) {
            desk.refused(ARGUMENT, j -> j.addStep(0, 0, ALWAYS, 0, bad, 0));
            desk.refused(ARGUMENT, j -> j.addStep(0, 0, ALWAYS, 0, bad, 3));
        }
        for (int deed = 0; deed <= 5; deed++) {
            int good = deed;
            desk.answers(good, j -> j.addStep(0, 0, ALWAYS, 0, good, 0));
            desk.answers(good, j -> j.step(0, 0, good, 2));
        }
    }

    @Sentence(promise = 4, value = "of is not 0 to 3 (for SET, MARK, COUNT and ADD)")
    private static void addStepTakesVariables() {
        for (int deed = SET; deed <= ADD; deed++) {
            int each = deed;
            Desk desk = new Desk();
            desk.program(all());
            for (int bad : new int[] {-1, 4, 100, 1000, 1003, Integer.MIN_VALUE, Integer.MAX_VALUE}) {
                desk.refused(ARGUMENT, j -> j.addStep(0, 0, ALWAYS, 0, each, bad));
            }
            for (int v = 0; v <= 3; v++) {
                int good = v;
                desk.answers(good, j -> j.addStep(0, 0, ALWAYS, 0, each, good));
                desk.answers(good, j -> j.step(0, 0, good, 3));
            }
        }
    }

    @Sentence(promise = 4, value = "of is not 0 (for BREAK)")
    private static void addStepTakesNothingForBreak() {
        Desk desk = new Desk();
        desk.program(all());
        for (int bad : new int[] {-1, 1, 3, 100, Integer.MIN_VALUE, Integer.MAX_VALUE}) {
            desk.refused(ARGUMENT, j -> j.addStep(0, 0, ALWAYS, 0, BREAK, bad));
        }
        desk.answers(0, j -> j.addStep(0, 0, ALWAYS, 0, BREAK, 0));
        desk.holds(0, all(ALWAYS, 0, BREAK, 0));
    }

    @Sentence(promise = 4, value = "of is not 0 to 100 (for EXIT)")
    private static void addStepTakesCodes() {
        Desk desk = new Desk();
        desk.program(all());
        for (int bad : beyond(0, 100)) {
            desk.refused(ARGUMENT, j -> j.addStep(0, 0, ALWAYS, 0, EXIT, bad));
        }
        int[] good = {0, 1, 4, 99, 100};
        for (int s = 0; s < good.length; s++) {
            int step = s;
            desk.answers(step, j -> j.addStep(0, 0, ALWAYS, 0, EXIT, good[step]));
            desk.answers(good[step], j -> j.step(0, 0, step, 3));
        }
    }

    @Sentence(promise = 4, value = "Throws IllegalStateException if there are 6 steps")
    private static void refusesSeventhStep() {
        Desk desk = new Desk();
        desk.program(all(), all(), all());
        for (int number = 0; number < 6; number++) {
            int due = number;
            desk.answers(due, j -> j.addStep(0, 1, EQUAL, due, COUNT, 1));
        }
        desk.refused(STATE, j -> j.addStep(0, 1, ALWAYS, 0, COUNT, 0));
        desk.refused(STATE, j -> j.addStep(0, 1, GREATER, 1003, EXIT, 100));
        desk.answers(6, j -> j.loop(0, 1, 3));
        desk.answers(0, j -> j.loop(0, 0, 3));
        desk.answers(0, j -> j.loop(0, 2, 3));
        desk.answers(0, j -> j.addStep(0, 2, ALWAYS, 0, COUNT, 0));
        desk.answers(0, j -> j.addStep(0, 0, ALWAYS, 0, COUNT, 0));
    }

    @Sentence(promise = 4, value = "Throws IllegalStateException if there are 6 steps: after changes, too")
    private static void countsStepsOfChanges() {
        Desk desk = new Desk();
        int[] three = repeated(3, COUNT_STEP);
        int[] others = repeated(3, ALWAYS, 0, COUNT, 1);
        desk.program(all(three), all(others));
        desk.answers(1, j -> j.change(0, JOIN, 0, 0));
        desk.refused(STATE, j -> j.addStep(1, 0, ALWAYS, 0, COUNT, 0));
        desk.answers(2, j -> j.change(1, DIVIDE, 0, 3));
        desk.answers(3, j -> j.addStep(2, 0, ALWAYS, 0, COUNT, 0));
        desk.answers(3, j -> j.addStep(2, 1, ALWAYS, 0, COUNT, 1));
        int both = desk.program(all(ALWAYS, 0, EXIT, 1, ALWAYS, 0, COUNT, 0, ALWAYS, 0, COUNT, 0,
                ALWAYS, 0, COUNT, 0, ALWAYS, 0, COUNT, 0, ALWAYS, 0, COUNT, 0));
        desk.refused(STATE, j -> j.addStep(both, 0, ALWAYS, 0, COUNT, 0));
        desk.answers(4, j -> j.change(both, STRIP, 0, 0));
        desk.answers(1, j -> j.addStep(4, 0, ALWAYS, 0, COUNT, 0));
        desk.answers(1, j -> j.joinAll(0));
        desk.refused(STATE, j -> j.addStep(0, 0, ALWAYS, 0, COUNT, 0));
    }

    @Sentence(promise = 4, value = "Adds a step behind the others")
    private static void addsSteps() {
        Desk desk = new Desk();
        desk.program(all(), all());
        int[] six = {GREATER, -100, SET, 3, LESS, 100, MARK, 0, OTHER, 1000, COUNT, 2,
            EQUAL, 1003, ADD, 1, ALWAYS, 0, BREAK, 0, GREATER, 1001, EXIT, 100};
        for (int s = 0; s < 6; s++) {
            int step = s;
            desk.answers(step, j -> j.addStep(0, 1, six[4 * step], six[4 * step + 1], six[4 * step + 2], six[4 * step + 3]));
        }
        desk.holds(0, all(), all(six));
    }

    @Sentence(promise = 4, value = "the exception that is named first: no program or loop, then the arguments, then 6 steps")
    private static void addStepRefusesInOrder() {
        Desk desk = new Desk();
        desk.program(all(repeated(6, COUNT_STEP)));
        desk.refused(INDEX, j -> j.addStep(1, 0, 5, 0, COUNT, 0));
        desk.refused(INDEX, j -> j.addStep(-1, 0, ALWAYS, 101, COUNT, 0));
        desk.refused(INDEX, j -> j.addStep(0, 1, ALWAYS, 0, 6, 0));
        desk.refused(INDEX, j -> j.addStep(0, -1, ALWAYS, 0, COUNT, 4));
        desk.refused(ARGUMENT, j -> j.addStep(0, 0, 5, 0, COUNT, 0));
        desk.refused(ARGUMENT, j -> j.addStep(0, 0, -1, 0, COUNT, 0));
        desk.refused(ARGUMENT, j -> j.addStep(0, 0, ALWAYS, 101, COUNT, 0));
        desk.refused(ARGUMENT, j -> j.addStep(0, 0, ALWAYS, 1004, COUNT, 0));
        desk.refused(ARGUMENT, j -> j.addStep(0, 0, ALWAYS, 0, 6, 0));
        desk.refused(ARGUMENT, j -> j.addStep(0, 0, ALWAYS, 0, COUNT, 4));
        desk.refused(ARGUMENT, j -> j.addStep(0, 0, ALWAYS, 0, BREAK, 1));
        desk.refused(ARGUMENT, j -> j.addStep(0, 0, ALWAYS, 0, EXIT, 101));
        desk.refused(STATE, j -> j.addStep(0, 0, ALWAYS, 0, EXIT, 100));
    }

    // ---- promises 5 and 6

    @Sentence(promise = 5, value = "Throws IndexOutOfBoundsException if there is no such program")
    private static void loopTakesPrograms() {
        takesProgramsThatAre((j, program) -> j.loop(program, 0, 0));
    }

    @Sentence(promise = 5, value = "Throws IndexOutOfBoundsException if there is no such loop")
    private static void loopTakesLoops() {
        takesLoopsThatAre((j, loop) -> j.loop(0, loop, 3));
    }

    @Sentence(promise = 5, value = "Throws IndexOutOfBoundsException if what is not 0 to 3")
    private static void loopTakesWhats() {
        Desk desk = new Desk();
        desk.program(loop(5, 4, UP, repeated(6, COUNT_STEP)), loop(0, 0, DOWN));
        for (int bad : beyond(0, 3)) {
            desk.refused(INDEX, j -> j.loop(0, 0, bad));
            desk.refused(INDEX, j -> j.loop(0, 1, bad));
        }
        desk.answersAlone(5, j -> j.loop(0, 0, 0));
        desk.answersAlone(4, j -> j.loop(0, 0, 1));
        desk.answersAlone(1, j -> j.loop(0, 0, 2));
        desk.answersAlone(6, j -> j.loop(0, 0, 3));
        desk.answersAlone(0, j -> j.loop(0, 1, 0));
        desk.answersAlone(0, j -> j.loop(0, 1, 1));
        desk.answersAlone(0, j -> j.loop(0, 1, 2));
        desk.answersAlone(0, j -> j.loop(0, 1, 3));
    }

    @Sentence(promise = 5, value = "a removed loop is no such loop any more")
    private static void loopForgetsRemovedLoops() {
        Desk desk = new Desk();
        desk.program(all(COUNT_STEP), all(ALWAYS, 0, COUNT, 1), all());
        desk.answers(2, j -> j.joinAll(0));
        desk.refused(INDEX, j -> j.loop(0, 1, 0));
        desk.refused(INDEX, j -> j.loop(0, 2, 0));
        desk.refused(INDEX, j -> j.addStep(0, 1, ALWAYS, 0, COUNT, 0));
        desk.refused(INDEX, j -> j.step(0, 1, 0, 0));
    }

    @Sentence(promise = 6, value = "Throws IndexOutOfBoundsException if there is no such program")
    private static void stepTakesPrograms() {
        takesProgramsThatAre((j, program) -> j.step(program, 0, 1, 0));
    }

    @Sentence(promise = 6, value = "Throws IndexOutOfBoundsException if there is no such loop")
    private static void stepTakesLoops() {
        takesLoopsThatAre((j, loop) -> j.step(0, loop, 1, 0));
    }

    @Sentence(promise = 6, value = "Throws IndexOutOfBoundsException if there is no such step")
    private static void stepTakesSteps() {
        for (int count : new int[] {0, 1, 5, 6}) {
            Desk desk = new Desk();
            int[] six = all(repeated(6, LESS, 9, SET, 3));
            desk.program(six, all(repeated(count, COUNT_STEP)), six);
            for (int bad : beyond(0, count - 1)) {
                desk.refused(INDEX, j -> j.step(0, 1, bad, 0));
                desk.refused(INDEX, j -> j.step(0, 1, bad, 3));
            }
            for (int step = 0; step < count; step++) {
                int each = step;
                desk.answers(COUNT, j -> j.step(0, 1, each, 2));
            }
        }
    }

    @Sentence(promise = 6, value = "Throws IndexOutOfBoundsException if what is not 0 to 3")
    private static void stepTakesWhats() {
        Desk desk = new Desk();
        desk.program(all(GREATER, -100, EXIT, 99, LESS, 1003, MARK, 2));
        for (int bad : beyond(0, 3)) {
            desk.refused(INDEX, j -> j.step(0, 0, 0, bad));
            desk.refused(INDEX, j -> j.step(0, 0, 1, bad));
        }
        int[] due = {GREATER, -100, EXIT, 99, LESS, 1003, MARK, 2};
        for (int at = 0; at < due.length; at++) {
            int step = at / 4;
            int what = at % 4;
            desk.answersAlone(due[at], j -> j.step(0, 0, step, what));
        }
    }

    // ---- promises 7 and 8

    @Sentence(promise = 7, value = "Returns the number of programs: of none, of ten")
    private static void countsPrograms() {
        Desk desk = new Desk();
        for (int count = 0; count < 10; count++) {
            desk.answersAlone(count, LoopJoiner::programs);
            desk.program();
        }
        desk.answersAlone(10, LoopJoiner::programs);
    }

    @Sentence(promise = 7, value = "Returns the number of programs: a refused call adds none")
    private static void countsNoRefusedPrograms() {
        Desk desk = new Desk();
        desk.program(all(ALWAYS, 0, SET, 0));
        desk.refused(STATE, j -> j.change(0, TURN, 0, 0));
        desk.refused(ARGUMENT, j -> j.change(0, TURN, 0, 1));
        desk.refused(INDEX, j -> j.change(0, TURN, 1, 0));
        desk.answers(1, LoopJoiner::programs);
        desk.answers(0, j -> j.joinAll(0));
        desk.answers(1, LoopJoiner::programs);
    }

    @Sentence(promise = 8, value = "Throws IndexOutOfBoundsException if there is no such program")
    private static void loopsTakesPrograms() {
        takesProgramsThatAre((j, program) -> j.loops(program));
    }

    @Sentence(promise = 8, value = "Returns the number of its loops: of none, of eight")
    private static void countsLoops() {
        Desk desk = new Desk();
        desk.program();
        desk.program();
        for (int count = 0; count < 8; count++) {
            desk.answersAlone(count, j -> j.loops(0));
            desk.loop(0, all(COUNT_STEP));
        }
        desk.answersAlone(8, j -> j.loops(0));
        desk.answersAlone(0, j -> j.loops(1));
    }
}
