/** Each sentence of the promises 9 to 12, and of the terms of a run, that names a boundary. */
public final class RunningBoundsTest extends Bench {
    private static final long LEAST = Long.MIN_VALUE;
    private static final long MOST = Long.MAX_VALUE;

    public static void main(String[] args) {
        runAll(RunningBoundsTest.class, 9, 12);
    }

    /** The numbers from, from + 1 and so on. */
    private static long[] upwards(long from, int count) {
        long[] numbers = new long[count];
        for (int at = 0; at < count; at++) {
            numbers[at] = from + at;
        }
        return numbers;
    }

    // ---- promise 9

    @Sentence(promise = 9, value = "Returns how many numbers the row has")
    private static void countsNumbers() {
        Desk desk = new Desk();
        for (int count = 1; count <= 40; count++) {
            desk.answers(count, j -> j.put(0));
        }
    }

    @Sentence(promise = 9, value = "Throws IllegalStateException if it has 40")
    private static void refuses41stNumber() {
        Desk desk = new Desk();
        desk.program(all(ALWAYS, 0, ADD, 0, ALWAYS, 0, SET, 1, ALWAYS, 0, MARK, 2, ALWAYS, 0, COUNT, 3));
        desk.row(upwards(1, 39));
        desk.answers(40, j -> j.put(1000));
        desk.refused(STATE, j -> j.put(7));
        desk.refused(STATE, j -> j.put(1000));
        desk.refused(STATE, j -> j.put(LEAST));
        desk.runs(0, -1, 1780, 1000, 39, 40, 160);
        desk.answers(40, LoopJoiner::empty);
    }

    @Sentence(promise = 9, value = "Throws IllegalStateException if it has 40: an emptied row has room again")
    private static void takes40NumbersAgain() {
        Desk desk = new Desk();
        desk.row(upwards(1, 40));
        desk.refused(STATE, j -> j.put(1));
        desk.answers(40, LoopJoiner::empty);
        for (int count = 1; count <= 40; count++) {
            desk.answers(count, j -> j.put(-1));
        }
        desk.refused(STATE, j -> j.put(1));
    }

    @Sentence(promise = 9, value = "All numbers are whole, 64 bits wide: the least and the greatest one can be put")
    private static void keeps64Bits() {
        for (long number : new long[] {LEAST, LEAST + 1, -1L << 32, -1, 0, 1, 1L << 32, MOST - 1, MOST}) {
            Desk desk = new Desk();
            desk.program(all(ALWAYS, 0, SET, 0));
            desk.answers(1, j -> j.put(number));
            desk.runs(0, -1, number, 0, 0, 0, 1);
        }
    }

    // ---- promise 10

    @Sentence(promise = 10, value = "Returns how many numbers it had: none, one, 39, 40")
    private static void emptyCounts() {
        for (int count : new int[] {0, 1, 39, 40}) {
            Desk desk = new Desk();
            desk.row(upwards(1, count));
            desk.answers(count, LoopJoiner::empty);
            desk.answersAlone(0, LoopJoiner::empty);
        }
    }

    @Sentence(promise = 10, value = "Empties the row, and nothing else")
    private static void emptyLeavesNoNumbers() {
        Desk desk = new Desk();
        int[] adds = all(ALWAYS, 0, ADD, 0, ALWAYS, 0, COUNT, 1);
        desk.program(adds);
        desk.row(5, 6, 7);
        desk.runs(0, -1, 18, 3, 0, 0, 6);
        desk.answers(3, LoopJoiner::empty);
        desk.ran(18, 3, 0, 0, 6);
        desk.holds(0, adds);
        desk.runs(0, -1, 0, 0, 0, 0, 0);
        desk.answers(1, j -> j.put(9));
        desk.runs(0, -1, 9, 1, 0, 0, 2);
    }

    // ---- promise 11: places

    @Sentence(promise = 11, value = "it goes over the places from skip to n - 1 - stop; if skip is greater, over none")
    private static void goesOverPlaces() {
        for (int skip = 0; skip <= 5; skip++) {
            for (int stop = 0; stop <= 5; stop++) {
                goesOverPlaces(skip, stop, UP);
                goesOverPlaces(skip, stop, DOWN);
            }
        }
    }

    /** The variable 2 marks the first place, since all numbers are 0 and 1 stands in the variable 1 behind it. */
    private static void goesOverPlaces(int skip, int stop, int direction) {
        Desk desk = new Desk();
        desk.program(loop(skip, stop, direction, EQUAL, 1001, MARK, 2, ALWAYS, 0, COUNT, 1, ALWAYS, 0, MARK, 0));
        for (int n = 0; n <= 12; n++) {
            desk.row(new long[n]);
            int places = n - skip - stop;
            int least = skip;
            int most = n - 1 - stop;
            if (places <= 0) {
                desk.runs(0, -1, 0, 0, 0, 0, 0);
            } else if (direction == UP) {
                desk.runs(0, -1, most, places, least, 0, 3 * places);
            } else {
                desk.runs(0, -1, least, places, most, 0, 3 * places);
            }
        }
    }

    @Sentence(promise = 11, value = "if skip is greater than n - 1 - stop, over none: in figures")
    private static void goesOverNone() {
        Desk desk = new Desk();
        desk.program(loop(2, 3, UP, ALWAYS, 0, COUNT, 0, ALWAYS, 0, ADD, 1));
        desk.row(1, 2, 3, 4, 5);
        desk.runs(0, -1, 0, 0, 0, 0, 0);
        desk.row(1, 2, 3, 4, 5, 6);
        desk.runs(0, -1, 1, 3, 0, 0, 2);
        desk.row(1, 2, 3, 4, 5, 6, 7);
        desk.runs(0, -1, 2, 7, 0, 0, 4);
        Desk last = new Desk();
        last.program(loop(5, 0, UP, ALWAYS, 0, COUNT, 0), loop(0, 5, DOWN, ALWAYS, 0, COUNT, 1));
        last.row(1, 2, 3, 4, 5);
        last.runs(0, -1, 0, 0, 0, 0, 0);
        last.row(1, 2, 3, 4, 5, 6);
        last.runs(0, -1, 1, 1, 0, 0, 2);
    }

    @Sentence(promise = 11, value = "Over a row of n numbers: of 40")
    private static void goesOverFullRow() {
        Desk desk = new Desk();
        desk.program(loop(0, 0, UP, ALWAYS, 0, SET, 0), loop(0, 0, DOWN, ALWAYS, 0, SET, 1),
                loop(5, 5, UP, ALWAYS, 0, SET, 2), loop(5, 5, DOWN, ALWAYS, 0, SET, 3));
        desk.row(upwards(100, 40));
        desk.runs(0, -1, 139, 100, 134, 105, 40 + 40 + 30 + 30);
    }

    @Sentence(promise = 11, value = "in ascending order, or, downwards, in descending order")
    private static void goesInOrder() {
        Desk desk = new Desk();
        desk.program(all(GREATER, 1000, COUNT, 1, ALWAYS, 0, SET, 0));
        desk.program(loop(0, 0, DOWN, GREATER, 1000, COUNT, 1, ALWAYS, 0, SET, 0));
        desk.row(1, 2, 3, 4, 5);
        desk.runs(0, -1, 5, 5, 0, 0, 10);
        desk.runs(1, -1, 1, 1, 0, 0, 10);
    }

    @Sentence(promise = 11, value = "a program without loops, loops without steps: nothing is done")
    private static void runsNothing() {
        Desk desk = new Desk();
        desk.program();
        desk.program(filledTo(8));
        for (int n : new int[] {0, 1, 40}) {
            desk.row(upwards(1, n));
            desk.runs(0, -1, 0, 0, 0, 0, 0);
            desk.runs(1, -1, 0, 0, 0, 0, 0);
        }
    }

    @Sentence(promise = 11, value = "8 loops of 6 steps over 40 numbers")
    private static void runsTheMost() {
        int[] loop = all(ALWAYS, 0, COUNT, 0, ALWAYS, 0, ADD, 1, LESS, -100, COUNT, 2,
                GREATER, 100, COUNT, 2, EQUAL, 1, COUNT, 3, OTHER, 1, MARK, 2);
        Desk desk = new Desk();
        desk.program(loop, loop, loop, loop, loop, loop, loop, loop);
        desk.row(upwards(1, 40));
        desk.runs(0, -1, 320, 8 * 820, 39, 8, 1920);
    }

    // ---- promise 11: variables

    @Sentence(promise = 11, value = "4 variables, a row of its own for each run, all 0 at first")
    private static void startsWithZeros() {
        Desk desk = new Desk();
        int[] both = all(ALWAYS, 0, COUNT, 0, ALWAYS, 0, ADD, 1, ALWAYS, 0, COUNT, 2, ALWAYS, 0, ADD, 3);
        desk.program(both);
        desk.row(5, 6);
        desk.runs(0, -1, 2, 11, 2, 11, 8);
        desk.runs(0, -1, 2, 11, 2, 11, 8);
        desk.program(all(EQUAL, 1000, COUNT, 0, EQUAL, 1001, COUNT, 1, EQUAL, 1002, COUNT, 2, EQUAL, 1003, COUNT, 3));
        desk.runs(1, -1, 0, 0, 0, 0, 8);
        desk.row(0);
        desk.runs(1, -1, 1, 1, 1, 1, 4);
        desk.program();
        desk.runs(2, -1, 0, 0, 0, 0, 0);
    }

    @Sentence(promise = 11, value = "SET, MARK, COUNT, ADD: each variable 0 to 3, and that one alone")
    private static void changesItsVariable() {
        long[] due = {9, 2, 3, 24};
        for (int deed = SET; deed <= ADD; deed++) {
            for (int v = 0; v <= 3; v++) {
                Desk desk = new Desk();
                desk.program(all(ALWAYS, 0, deed, v));
                desk.row(7, 8, 9);
                long number = due[deed];
                desk.runs(0, -1, v == 0 ? number : 0, v == 1 ? number : 0, v == 2 ? number : 0, v == 3 ? number : 0, 3);
            }
        }
    }

    @Sentence(promise = 11, value = "All numbers wrap around: ADD")
    private static void addWraps() {
        long[][] sums = {{MOST, 1, LEAST}, {LEAST, -1, MOST}, {LEAST, LEAST, 0}, {MOST, MOST, -2},
            {MOST, 0, MOST}, {MOST - 1, 1, MOST}, {LEAST + 1, -1, LEAST}, {LEAST, MOST, -1}};
        for (long[] each : sums) {
            Desk desk = new Desk();
            desk.program(all(ALWAYS, 0, ADD, 3));
            desk.row(each[0], each[1]);
            desk.runs(0, -1, 0, 0, 0, each[2], 2);
        }
    }

    @Sentence(promise = 11, value = "All numbers wrap around: COUNT")
    private static void countWraps() {
        long[][] next = {{MOST, LEAST}, {MOST - 1, MOST}, {LEAST, LEAST + 1}, {-1, 0}, {0xFFFFFFFFL, 0x100000000L},
            {0x7FFFFFFFL, 0x80000000L}};
        for (long[] each : next) {
            Desk desk = new Desk();
            desk.program(all(ALWAYS, 0, SET, 1, ALWAYS, 0, COUNT, 1));
            desk.row(each[0]);
            desk.runs(0, -1, 0, each[1], 0, 0, 2);
        }
    }

    @Sentence(promise = 11, value = "At each place the steps are done in their order")
    private static void doesStepsInOrder() {
        Desk desk = new Desk();
        desk.program(all(ALWAYS, 0, SET, 0, ALWAYS, 0, COUNT, 0, EQUAL, 1000, COUNT, 1, ALWAYS, 0, COUNT, 0, LESS, 1000, COUNT, 2));
        desk.program(all(EQUAL, 1000, COUNT, 1, LESS, 1000, COUNT, 2, ALWAYS, 0, COUNT, 0, ALWAYS, 0, COUNT, 0, ALWAYS, 0, SET, 0));
        desk.row(5);
        desk.runs(0, -1, 7, 0, 1, 0, 5);
        desk.runs(1, -1, 5, 0, 0, 0, 5);
    }

    // ---- promise 11: looks

    @Sentence(promise = 11, value = "0 always, 1 equal, 2 other, 3 less, 4 greater, with a constant, -100 to 100")
    private static void looksWithConstants() {
        for (int constant : new int[] {-100, -99, -1, 0, 1, 99, 100}) {
            Desk desk = new Desk();
            desk.program(all(EQUAL, constant, COUNT, 0, OTHER, constant, COUNT, 1, LESS, constant, COUNT, 2,
                    GREATER, constant, COUNT, 3));
            desk.program(all(ALWAYS, constant, COUNT, 0));
            for (long less : new long[] {constant - 1, LEAST, -1000}) {
                desk.row(less);
                desk.runs(0, -1, 0, 1, 1, 0, 4);
                desk.runs(1, -1, 1, 0, 0, 0, 1);
            }
            desk.row(constant);
            desk.runs(0, -1, 1, 0, 0, 0, 4);
            desk.runs(1, -1, 1, 0, 0, 0, 1);
            for (long greater : new long[] {constant + 1, MOST, 1000, constant + (1L << 32)}) {
                desk.row(greater);
                desk.runs(0, -1, 0, 1, 0, 1, 4);
                desk.runs(1, -1, 1, 0, 0, 0, 1);
            }
        }
    }

    @Sentence(promise = 11, value = "or with a variable (the number at the place stands on the left)")
    private static void looksWithVariables() {
        long[][] pairs = {{5, 4}, {5, 5}, {5, 6}, {MOST, LEAST}, {LEAST, MOST}, {LEAST, LEAST}, {MOST, MOST},
            {LEAST, LEAST + 1}, {LEAST + 1, LEAST}, {MOST, MOST - 1}, {MOST - 1, MOST}, {0, 1L << 32}, {1L << 32, 0}};
        for (int v = 0; v <= 3; v++) {
            for (int look = ALWAYS; look <= GREATER; look++) {
                Desk desk = new Desk();
                desk.program(loop(0, 1, UP, ALWAYS, 0, SET, v), loop(1, 0, UP, look, 1000 + v, EXIT, 3));
                for (long[] pair : pairs) {
                    desk.row(pair[0], pair[1]);
                    desk.answers(holds(look, pair[1], pair[0]) ? 3 : -1, j -> j.run(0));
                    desk.answers(2, j -> j.ran(4));
                }
            }
        }
    }

    private static boolean holds(int look, long number, long other) {
        return switch (look) {
            case ALWAYS -> true;
            case EQUAL -> number == other;
            case OTHER -> number != other;
            case LESS -> number < other;
            default -> number > other;
        };
    }

    @Sentence(promise = 11, value = "with the variable: as it is at this step")
    private static void looksWithTheVariableOfNow() {
        Desk desk = new Desk();
        desk.program(all(EQUAL, 1003, COUNT, 0, ALWAYS, 0, SET, 3, EQUAL, 1003, COUNT, 1));
        desk.row(4, 4, 5, 0, 0);
        desk.runs(0, -1, 2, 5, 0, 0, 15);
    }

    // ---- promise 11: BREAK and EXIT

    @Sentence(promise = 11, value = "4 BREAK: the loop is left at once, at any place and step")
    private static void breaks() {
        Desk desk = new Desk();
        desk.program(all(ALWAYS, 0, COUNT, 0, EQUAL, 7, BREAK, 0, ALWAYS, 0, COUNT, 1), all(ALWAYS, 0, COUNT, 2));
        desk.row(7, 1, 2);
        desk.runs(0, -1, 1, 0, 3, 0, 2 + 3);
        desk.row(1, 7, 2);
        desk.runs(0, -1, 2, 1, 3, 0, 5 + 3);
        desk.row(1, 2, 7);
        desk.runs(0, -1, 3, 2, 3, 0, 8 + 3);
        desk.row(1, 2, 3);
        desk.runs(0, -1, 3, 3, 3, 0, 9 + 3);
        Desk down = new Desk();
        down.program(loop(0, 0, DOWN, ALWAYS, 0, ADD, 0, EQUAL, 7, BREAK, 0));
        down.row(100, 7, 10);
        down.runs(0, -1, 17, 0, 0, 0, 4);
        Desk first = new Desk();
        first.program(all(ALWAYS, 0, BREAK, 0, ALWAYS, 0, COUNT, 0), all(ALWAYS, 0, BREAK, 0), all(ALWAYS, 0, COUNT, 3));
        first.row(1, 2);
        first.runs(0, -1, 0, 0, 0, 2, 1 + 1 + 2);
    }

    @Sentence(promise = 11, value = "5 EXIT c: the program is left at once, at any place and step")
    private static void exits() {
        Desk desk = new Desk();
        desk.program(all(ALWAYS, 0, COUNT, 0, EQUAL, 7, EXIT, 9, ALWAYS, 0, COUNT, 1), all(ALWAYS, 0, COUNT, 2),
                loop(0, 0, DOWN, EQUAL, 8, EXIT, 10, ALWAYS, 0, COUNT, 3));
        desk.row(7, 1, 2);
        desk.runs(0, 9, 1, 0, 0, 0, 2);
        desk.row(1, 7, 8);
        desk.runs(0, 9, 2, 1, 0, 0, 5);
        desk.row(1, 8, 7);
        desk.runs(0, 9, 3, 2, 0, 0, 8);
        desk.row(1, 8, 2);
        desk.runs(0, 10, 3, 3, 3, 1, 9 + 3 + 3);
        desk.row(8, 1, 2);
        desk.runs(0, 10, 3, 3, 3, 2, 9 + 3 + 5);
        desk.row(1, 2, 3);
        desk.runs(0, -1, 3, 3, 3, 3, 9 + 3 + 6);
    }

    @Sentence(promise = 11, value = "Returns the code, if it was left; otherwise -1: the codes 0 to 100")
    private static void answersCodes() {
        for (int code : new int[] {0, 1, 4, 5, 99, 100}) {
            Desk desk = new Desk();
            desk.program(all(GREATER, 0, EXIT, code));
            desk.row(1);
            desk.runs(0, code, 0, 0, 0, 0, 1);
            desk.row(0);
            desk.runs(0, -1, 0, 0, 0, 0, 1);
            desk.row();
            desk.runs(0, -1, 0, 0, 0, 0, 0);
        }
    }

    @Sentence(promise = 11, value = "The cost is the number of looks that were made (also those of the sort 0)")
    private static void countsLooks() {
        Desk desk = new Desk();
        desk.program(all(ALWAYS, 0, COUNT, 0), all(LESS, 0, COUNT, 0), all(ALWAYS, 0, BREAK, 0));
        for (int n : new int[] {0, 1, 2, 40}) {
            desk.row(upwards(1, n));
            desk.runs(0, -1, n, 0, 0, 0, n + n + Math.min(n, 1));
        }
    }

    @Sentence(promise = 11, value = "Throws IndexOutOfBoundsException if there is no such program")
    private static void runTakesPrograms() {
        takesProgramsThatAre((j, program) -> j.run(program));
    }

    // ---- promise 12

    @Sentence(promise = 12, value = "Throws IndexOutOfBoundsException if what is not 0 to 4")
    private static void ranTakesWhats() {
        Desk desk = new Desk();
        for (int bad : beyond(0, 4)) {
            desk.refused(INDEX, j -> j.ran(bad));
        }
        desk.program(all(ALWAYS, 0, COUNT, 0, ALWAYS, 0, MARK, 1, ALWAYS, 0, SET, 2, ALWAYS, 0, ADD, 3));
        desk.row(4, 5, 6);
        desk.answers(-1, j -> j.run(0));
        for (int bad : beyond(0, 4)) {
            desk.refused(INDEX, j -> j.ran(bad));
        }
        desk.answersAlone(3, j -> j.ran(0));
        desk.answersAlone(2, j -> j.ran(1));
        desk.answersAlone(6, j -> j.ran(2));
        desk.answersAlone(15, j -> j.ran(3));
        desk.answersAlone(12, j -> j.ran(4));
    }

    @Sentence(promise = 12, value = "0, if there was none")
    private static void ranBeforeAnyRun() {
        Desk desk = new Desk();
        desk.ran(0, 0, 0, 0, 0);
        desk.program(all(ALWAYS, 0, COUNT, 0, ALWAYS, 0, EXIT, 1));
        desk.row(1, 2);
        desk.refused(INDEX, j -> j.run(1));
        desk.refused(INDEX, j -> j.run(-1));
        desk.answers(0, j -> j.differ(0, 0, 2, 2));
        desk.answers(-1, j -> j.firstCase(0, 0, 2, 2));
        desk.answers(8, j -> j.cost(0, 2, 2, false));
        desk.part(1.0, j -> j.exits(0, 2, 2));
        desk.ran(0, 0, 0, 0, 0);
    }

    @Sentence(promise = 12, value = "of the latest run(): a later one counts, be it over none, a refused one does not")
    private static void ranOfTheLatestRun() {
        Desk desk = new Desk();
        desk.program(all(ALWAYS, 0, ADD, 0));
        desk.program(all(ALWAYS, 0, COUNT, 3, ALWAYS, 0, COUNT, 3));
        desk.row(4, 5);
        desk.runs(0, -1, 9, 0, 0, 0, 2);
        desk.runs(1, -1, 0, 0, 0, 4, 4);
        desk.refused(INDEX, j -> j.run(2));
        desk.ran(0, 0, 0, 4, 4);
        desk.row();
        desk.ran(0, 0, 0, 4, 4);
        desk.runs(0, -1, 0, 0, 0, 0, 0);
    }

    @Sentence(promise = 12, value = "what differ(), firstCase(), cost() and exits() run does not count")
    private static void ranLeavesProofsOut() {
        Desk desk = new Desk();
        desk.program(all(ALWAYS, 0, ADD, 0, GREATER, 5, EXIT, 3));
        desk.program(all(ALWAYS, 0, COUNT, 3));
        desk.row(4, 6, 7);
        desk.runs(0, 3, 10, 0, 0, 0, 4);
        desk.answersAlone(8, j -> j.differ(0, 1, 3, 2));
        desk.answersAlone(0, j -> j.firstCase(0, 1, 3, 2));
        desk.answersAlone(6, j -> j.cost(0, 3, 2, true));
        desk.answersAlone(24, j -> j.cost(1, 3, 2, false));
        desk.answersAlone(0, j -> (long) j.exits(1, 3, 2));
        desk.refused(ARGUMENT, j -> j.differ(0, 1, 6, 4));
        desk.ran(10, 0, 0, 0, 4);
    }

    @Sentence(promise = 12, value = "of the latest run(): no other call changes it")
    private static void ranOutlivesOtherCalls() {
        Desk desk = new Desk();
        desk.program(all(ALWAYS, 0, ADD, 0), all(ALWAYS, 0, COUNT, 2));
        desk.row(4, 6);
        desk.runs(0, -1, 10, 0, 2, 0, 4);
        desk.answers(1, LoopJoiner::addProgram);
        desk.answers(0, j -> j.addLoop(1, 0, 0, true));
        desk.answers(0, j -> j.addStep(1, 0, ALWAYS, 0, COUNT, 3));
        desk.answers(3, j -> j.put(9));
        desk.answers(2, j -> j.change(0, JOIN, 0, 0));
        desk.answers(1, j -> j.joinAll(0));
        desk.answers(3, LoopJoiner::empty);
        desk.ran(10, 0, 2, 0, 4);
    }

    @Sentence(promise = 12, value = "the variables at the end of the latest run(), 4 its cost: of a run that was left, too")
    private static void ranOfLeftRun() {
        Desk desk = new Desk();
        desk.program(all(ALWAYS, 0, COUNT, 0, ALWAYS, 0, MARK, 1, ALWAYS, 0, SET, 2, ALWAYS, 0, ADD, 3, EQUAL, 7, EXIT, 0));
        desk.row(5, 7, 9);
        desk.runs(0, 0, 2, 1, 7, 12, 10);
    }
}
