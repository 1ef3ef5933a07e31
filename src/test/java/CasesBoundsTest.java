import java.math.BigInteger;

/** Each sentence of the promises 16 to 20 that names a boundary. */
public final class CasesBoundsTest extends Bench {
    /** How many rows of n numbers 0 to v - 1 there are, by n and v - 1; 0, where there are too many. */
    private static final int[][] ROWS = {{1, 1, 1, 1}, {1, 2, 3, 4}, {1, 4, 9, 16}, {1, 8, 27, 64}, {1, 16, 81, 256},
        {1, 32, 243, 1024}, {1, 64, 729, 0}};

    private static final int[] COUNTS = all(ALWAYS, 0, COUNT, 0);
    private static final int[] LEAVES = all(ALWAYS, 0, EXIT, 5);

    /** One call of a proof over rows. */
    private interface Proof {
        long of(LoopJoiner joiner, int n, int v);
    }

    public static void main(String[] args) {
        runAll(CasesBoundsTest.class, 16, 20);
    }

    // ---- what the promises 16 to 19 have in common

    private static void takesRows(Proof proof) {
        for (int n = -1; n <= 7; n++) {
            for (int v = -1; v <= 6; v++) {
                int each = n;
                int other = v;
                Desk desk = new Desk();
                desk.program(COUNTS);
                desk.program(LEAVES);
                if (n >= 0 && n <= 6 && v >= 1 && v <= 4 && ROWS[n][v - 1] > 0) {
                    desk.accepted(j -> proof.of(j, each, other));
                } else {
                    desk.refused(ARGUMENT, j -> proof.of(j, each, other));
                }
            }
        }
        Desk desk = new Desk();
        desk.program(COUNTS);
        desk.program(LEAVES);
        for (int bad : beyond(0, 6)) {
            desk.refused(ARGUMENT, j -> proof.of(j, bad, 1));
            desk.refused(ARGUMENT, j -> proof.of(j, bad, 4));
        }
        for (int bad : beyond(1, 4)) {
            desk.refused(ARGUMENT, j -> proof.of(j, 0, bad));
            desk.refused(ARGUMENT, j -> proof.of(j, 6, bad));
        }
    }

    @Sentence(promise = 16, value = "Throws IllegalArgumentException if n is not 0 to 6, v is not 1 to 4, or there are more than 1024 such rows")
    private static void differTakesRows() {
        takesRows((j, n, v) -> j.differ(0, 1, n, v));
    }

    @Sentence(promise = 17, value = "Throws IllegalArgumentException if n is not 0 to 6, v is not 1 to 4, or there are more than 1024 such rows")
    private static void firstCaseTakesRows() {
        takesRows((j, n, v) -> j.firstCase(0, 1, n, v));
    }

    @Sentence(promise = 18, value = "Throws IllegalArgumentException if n is not 0 to 6, v is not 1 to 4, or there are more than 1024 such rows")
    private static void costTakesRows() {
        takesRows((j, n, v) -> j.cost(0, n, v, true));
        takesRows((j, n, v) -> j.cost(0, n, v, false));
    }

    @Sentence(promise = 19, value = "Throws IllegalArgumentException if n is not 0 to 6, v is not 1 to 4, or there are more than 1024 such rows")
    private static void exitsTakesRows() {
        takesRows((j, n, v) -> (long) j.exits(0, n, v));
    }

    @Sentence(promise = 16, value = "Throws IndexOutOfBoundsException if there is no such program: a, b")
    private static void differTakesPrograms() {
        takesProgramsThatAre((j, program) -> j.differ(program, 0, 2, 2));
        takesProgramsThatAre((j, program) -> j.differ(0, program, 2, 2));
        takesProgramsThatAre((j, program) -> j.differ(program, program, 2, 2));
    }

    @Sentence(promise = 17, value = "Throws IndexOutOfBoundsException if there is no such program: a, b")
    private static void firstCaseTakesPrograms() {
        takesProgramsThatAre((j, program) -> j.firstCase(program, 0, 2, 2));
        takesProgramsThatAre((j, program) -> j.firstCase(0, program, 2, 2));
        takesProgramsThatAre((j, program) -> j.firstCase(program, program, 2, 2));
    }

    @Sentence(promise = 18, value = "Throws IndexOutOfBoundsException if there is no such program")
    private static void costTakesPrograms() {
        takesProgramsThatAre((j, program) -> j.cost(program, 2, 2, true));
        takesProgramsThatAre((j, program) -> j.cost(program, 2, 2, false));
    }

    @Sentence(promise = 19, value = "Throws IndexOutOfBoundsException if there is no such program")
    private static void exitsTakesPrograms() {
        takesProgramsThatAre((j, program) -> (long) j.exits(program, 2, 2));
    }

    private static void refusesInOrder(Desk.CallAt call) {
        Desk desk = new Desk();
        desk.refused(INDEX, j -> call.of(j, 0));
        desk.program(COUNTS);
        for (int bad : beyond(0, 0)) {
            desk.refused(INDEX, j -> call.of(j, bad));
        }
        desk.refused(ARGUMENT, j -> call.of(j, 0));
    }

    @Sentence(promise = 16, value = "the exception that is named first: no program, then the rows")
    private static void differRefusesInOrder() {
        refusesInOrder((j, program) -> j.differ(program, 0, 7, 1));
        refusesInOrder((j, program) -> j.differ(0, program, 0, 5));
        refusesInOrder((j, program) -> j.differ(0, program, 6, 4));
    }

    @Sentence(promise = 17, value = "the exception that is named first: no program, then the rows")
    private static void firstCaseRefusesInOrder() {
        refusesInOrder((j, program) -> j.firstCase(program, 0, -1, 1));
        refusesInOrder((j, program) -> j.firstCase(0, program, 0, 0));
        refusesInOrder((j, program) -> j.firstCase(0, program, 6, 4));
    }

    @Sentence(promise = 18, value = "the exception that is named first: no program, then the rows")
    private static void costRefusesInOrder() {
        refusesInOrder((j, program) -> j.cost(program, 7, 1, true));
        refusesInOrder((j, program) -> j.cost(program, 0, 5, false));
        refusesInOrder((j, program) -> j.cost(program, 6, 4, false));
    }

    @Sentence(promise = 19, value = "the exception that is named first: no program, then the rows")
    private static void exitsRefusesInOrder() {
        refusesInOrder((j, program) -> (long) j.exits(program, 7, 1));
        refusesInOrder((j, program) -> (long) j.exits(program, 0, 5));
        refusesInOrder((j, program) -> (long) j.exits(program, 6, 4));
    }

    // ---- promises 16 and 17

    @Sentence(promise = 16, value = "over all rows of n numbers, each of them 0 to v - 1: as many as there are")
    private static void differsOnAllRows() {
        for (int n = 0; n <= 6; n++) {
            for (int v = 1; v <= 4; v++) {
                if (ROWS[n][v - 1] > 0) {
                    int each = n;
                    int other = v;
                    int due = n == 0 ? 0 : ROWS[n][v - 1];
                    Desk desk = new Desk();
                    desk.program(COUNTS);
                    desk.program(LEAVES);
                    desk.answersAlone(due, j -> j.differ(0, 1, each, other));
                    desk.answersAlone(due, j -> j.differ(1, 0, each, other));
                    desk.answersAlone(0, j -> j.differ(0, 0, each, other));
                    desk.answersAlone(n == 0 ? -1 : 0, j -> j.firstCase(0, 1, each, other));
                    desk.answersAlone(-1, j -> j.firstCase(1, 1, each, other));
                }
            }
        }
    }

    @Sentence(promise = 16, value = "rows of 0 numbers: the empty one alone, on which no program does anything")
    private static void differsOnNoEmptyRow() {
        Desk desk = new Desk();
        desk.program(LEAVES, all(ALWAYS, 0, COUNT, 0));
        desk.program();
        for (int v = 1; v <= 4; v++) {
            int values = v;
            desk.answersAlone(0, j -> j.differ(0, 1, 0, values));
            desk.answersAlone(-1, j -> j.firstCase(0, 1, 0, values));
            desk.answersAlone(0, j -> j.cost(0, 0, values, true));
            desk.answersAlone(0, j -> j.cost(0, 0, values, false));
            desk.part(0.0, j -> j.exits(0, 0, values));
        }
    }

    @Sentence(promise = 16, value = "each of them 0 to v - 1: each value, and no other")
    private static void differsByEachValue() {
        for (int v = 1; v <= 4; v++) {
            for (int value = -1; value <= 4; value++) {
                int values = v;
                boolean isThere = value >= 0 && value < v;
                Desk desk = new Desk();
                desk.program(all(EQUAL, value, COUNT, 0));
                desk.program();
                desk.answersAlone(isThere ? 1 : 0, j -> j.differ(0, 1, 1, values));
                desk.answersAlone(isThere ? value : -1, j -> j.firstCase(0, 1, 1, values));
            }
        }
    }

    /** A program that is left by EXIT on all rows but this one, and otherwise counts in the variable. */
    private static int[][] leavesAllBut(int[] digits, int variable) {
        int[][] loops = new int[digits.length + 1][];
        for (int at = 0; at < digits.length; at++) {
            loops[at] = loop(at, digits.length - 1 - at, UP, OTHER, digits[at], EXIT, 1);
        }
        loops[digits.length] = all(ALWAYS, 0, COUNT, variable);
        return loops;
    }

    private static void differsOnThisRowAlone(int number, int v, int... digits) {
        int n = digits.length;
        Desk desk = new Desk();
        desk.program(leavesAllBut(digits, 0));
        desk.program(leavesAllBut(digits, 3));
        desk.answersAlone(1, j -> j.differ(0, 1, n, v));
        desk.answersAlone(number, j -> j.firstCase(0, 1, n, v));
        desk.part((ROWS[n][v - 1] - 1.0) / ROWS[n][v - 1], j -> j.exits(0, n, v));
    }

    @Sentence(promise = 17, value = "read with the base v, the first number being the highest digit: the first row, the last one, some between")
    private static void firstCaseReadsRows() {
        differsOnThisRowAlone(0, 4, 0, 0, 0, 0, 0);
        differsOnThisRowAlone(1, 4, 0, 0, 0, 0, 1);
        differsOnThisRowAlone(3, 4, 0, 0, 0, 0, 3);
        differsOnThisRowAlone(4, 4, 0, 0, 0, 1, 0);
        differsOnThisRowAlone(256, 4, 1, 0, 0, 0, 0);
        differsOnThisRowAlone(0 * 256 + 1 * 64 + 2 * 16 + 3 * 4 + 1, 4, 0, 1, 2, 3, 1);
        differsOnThisRowAlone(1022, 4, 3, 3, 3, 3, 2);
        differsOnThisRowAlone(1023, 4, 3, 3, 3, 3, 3);
        differsOnThisRowAlone(728, 3, 2, 2, 2, 2, 2, 2);
        differsOnThisRowAlone(243, 3, 1, 0, 0, 0, 0, 0);
        differsOnThisRowAlone(242, 3, 0, 2, 2, 2, 2, 2);
        differsOnThisRowAlone(63, 2, 1, 1, 1, 1, 1, 1);
        differsOnThisRowAlone(32, 2, 1, 0, 0, 0, 0, 0);
        differsOnThisRowAlone(1, 2, 0, 0, 0, 0, 0, 1);
        differsOnThisRowAlone(0, 1, 0, 0, 0, 0, 0, 0);
        differsOnThisRowAlone(2, 3, 2);
        differsOnThisRowAlone(0, 1, 0);
    }

    @Sentence(promise = 17, value = "Returns the first of these rows; -1 if there is none")
    private static void firstCaseOfSeveral() {
        Desk desk = new Desk();
        desk.program(all(EQUAL, 2, COUNT, 0));
        desk.program(all(GREATER, 1, COUNT, 0));
        desk.program(loop(1, 0, UP, EQUAL, 2, COUNT, 0));
        desk.answersAlone(-1, j -> j.firstCase(0, 1, 5, 3));
        desk.answersAlone(0, j -> j.differ(0, 1, 5, 3));
        desk.answersAlone(3, j -> j.firstCase(0, 1, 5, 4));
        desk.answersAlone(1024 - 243, j -> j.differ(0, 1, 5, 4));
        desk.answersAlone(512, j -> j.firstCase(0, 2, 5, 4));
        desk.answersAlone(512, j -> j.firstCase(2, 0, 5, 4));
        desk.answersAlone(256, j -> j.differ(2, 0, 5, 4));
        desk.answersAlone(-1, j -> j.firstCase(0, 2, 5, 2));
        desk.answersAlone(-1, j -> j.firstCase(0, 2, 0, 4));
    }

    private static void differs(int due, int[][] first, int[][] second, int n, int v) {
        Desk desk = new Desk();
        desk.program(first);
        desk.program(second);
        desk.answersAlone(due, j -> j.differ(0, 1, n, v));
        desk.answersAlone(due, j -> j.differ(1, 0, n, v));
        desk.answersAlone(due == 0 ? -1 : 0, j -> j.firstCase(0, 1, n, v));
        desk.answersAlone(due == 0 ? -1 : 0, j -> j.firstCase(1, 0, n, v));
    }

    @Sentence(promise = 16, value = "two answers are the same if both were left with the same code")
    private static void differsByCodes() {
        for (int code : new int[] {0, 1, 99, 100}) {
            for (int other : new int[] {0, 1, 99, 100}) {
                differs(code == other ? 0 : 9, new int[][] {all(ALWAYS, 0, EXIT, code)},
                        new int[][] {all(ALWAYS, 0, EXIT, other)}, 2, 3);
                differs(code == other ? 0 : 9, new int[][] {all(ALWAYS, 0, COUNT, 2, ALWAYS, 0, EXIT, code)},
                        new int[][] {all(ALWAYS, 0, EXIT, other)}, 2, 3);
            }
        }
    }

    @Sentence(promise = 16, value = "or neither was left and all variables are the same: each one of them")
    private static void differsByVariables() {
        for (int v = 0; v <= 3; v++) {
            differs(9, new int[][] {all(ALWAYS, 0, COUNT, v)}, new int[][] {all(LESS, 0, COUNT, v)}, 2, 3);
            differs(9, new int[][] {all(ALWAYS, 0, COUNT, v)}, new int[][] {loop(0, 1, UP, ALWAYS, 0, COUNT, v)}, 2, 3);
            for (int other = 0; other <= 3; other++) {
                differs(v == other ? 0 : 9, new int[][] {all(ALWAYS, 0, COUNT, v)},
                        new int[][] {loop(0, 0, DOWN, ALWAYS, 0, COUNT, other)}, 2, 3);
            }
        }
    }

    @Sentence(promise = 16, value = "one was left and the other one was not: not the same, whatever the variables are")
    private static void differsByBeingLeft() {
        for (int code : new int[] {0, 1, 100}) {
            differs(9, new int[][] {all(ALWAYS, 0, EXIT, code)}, new int[][] {}, 2, 3);
            differs(9, new int[][] {all(ALWAYS, 0, COUNT, 0), all(ALWAYS, 0, EXIT, code)},
                    new int[][] {all(ALWAYS, 0, COUNT, 0)}, 2, 3);
            differs(0, new int[][] {all(GREATER, 2, EXIT, code)}, new int[][] {}, 2, 3);
        }
    }

    @Sentence(promise = 16, value = "the answers alone count: not the cost, not the row that was put")
    private static void differsByNothingElse() {
        Desk desk = new Desk();
        desk.program(all(ALWAYS, 0, COUNT, 0, LESS, 0, EXIT, 3, GREATER, 3, COUNT, 1));
        desk.program(all(ALWAYS, 0, COUNT, 0));
        desk.row(-1, 9, 4);
        desk.runs(0, 3, 1, 0, 0, 0, 2);
        desk.answersAlone(0, j -> j.differ(0, 1, 5, 4));
        desk.answersAlone(-1, j -> j.firstCase(0, 1, 5, 4));
        desk.ran(1, 0, 0, 0, 2);
        desk.runs(1, -1, 3, 0, 0, 0, 3);
    }

    @Sentence(promise = 16, value = "a skip of 5, a stop of 5: over rows of 5 and 6 numbers")
    private static void differsOverShortRows() {
        for (int direction : new int[] {UP, DOWN}) {
            differs(0, new int[][] {loop(5, 0, direction, ALWAYS, 0, EXIT, 1)}, new int[][] {}, 5, 3);
            differs(729, new int[][] {loop(5, 0, direction, ALWAYS, 0, EXIT, 1)}, new int[][] {}, 6, 3);
            differs(0, new int[][] {loop(0, 5, direction, ALWAYS, 0, EXIT, 1)}, new int[][] {}, 5, 3);
            differs(729, new int[][] {loop(0, 5, direction, ALWAYS, 0, EXIT, 1)}, new int[][] {}, 6, 3);
            differs(0, new int[][] {loop(5, 5, direction, ALWAYS, 0, EXIT, 1)}, new int[][] {}, 6, 3);
        }
    }

    // ---- promise 18

    @Sentence(promise = 18, value = "the sum of all costs, the greatest cost: of all rows that there are")
    private static void costsOfAllRows() {
        for (int n = 0; n <= 6; n++) {
            for (int v = 1; v <= 4; v++) {
                if (ROWS[n][v - 1] > 0) {
                    int each = n;
                    int other = v;
                    Desk desk = new Desk();
                    desk.program(all(ALWAYS, 0, COUNT, 0, LESS, -100, EXIT, 1));
                    desk.answersAlone(2 * n * ROWS[n][v - 1], j -> j.cost(0, each, other, false));
                    desk.answersAlone(2 * n, j -> j.cost(0, each, other, true));
                }
            }
        }
    }

    @Sentence(promise = 18, value = "whether the greatest cost of all these rows is meant: be it of the first row, the last one, one between")
    private static void costsTheMost() {
        Desk desk = new Desk();
        desk.program(all(GREATER, 0, BREAK, 0));
        desk.program(all(LESS, 3, BREAK, 0));
        desk.program(all(OTHER, 1, BREAK, 0));
        desk.program(all(EQUAL, 1, EXIT, 0));
        for (int program = 0; program <= 3; program++) {
            int each = program;
            desk.answersAlone(3, j -> j.cost(each, 3, 4, true));
        }
        desk.answersAlone(64 + 16 + 4, j -> j.cost(0, 3, 4, false));
        desk.answersAlone(64 + 16 + 4, j -> j.cost(1, 3, 4, false));
        desk.answersAlone(64 + 16 + 4, j -> j.cost(2, 3, 4, false));
        desk.answersAlone(64 + 48 + 36, j -> j.cost(3, 3, 4, false));
        desk.answersAlone(1, j -> j.cost(1, 3, 3, true));
        desk.answersAlone(27, j -> j.cost(1, 3, 3, false));
    }

    @Sentence(promise = 18, value = "Returns this: 0 of a program without loops or without steps, and over no places")
    private static void costsNothing() {
        Desk desk = new Desk();
        desk.program();
        desk.program(filledTo(8));
        desk.program(loop(3, 2, UP, ALWAYS, 0, EXIT, 1));
        for (int program = 0; program <= 2; program++) {
            int each = program;
            desk.answersAlone(0, j -> j.cost(each, 5, 4, true));
            desk.answersAlone(0, j -> j.cost(each, 5, 4, false));
        }
        desk.answersAlone(1, j -> j.cost(2, 6, 3, true));
        desk.answersAlone(729, j -> j.cost(2, 6, 3, false));
    }

    @Sentence(promise = 18, value = "the sum of all costs: of 8 loops of 6 steps over 1024 rows")
    private static void costsOfTheLongestProgram() {
        int[] six = all(repeated(6, ALWAYS, 0, ADD, 0));
        Desk desk = new Desk();
        desk.program(six, six, six, six, six, six, six, six);
        desk.answersAlone(8 * 6 * 5 * 1024, j -> j.cost(0, 5, 4, false));
        desk.answersAlone(8 * 6 * 5, j -> j.cost(0, 5, 4, true));
        desk.answersAlone(8 * 6 * 6 * 729, j -> j.cost(0, 6, 3, false));
    }

    // ---- promise 19

    @Sentence(promise = 19, value = "the part of these rows on which it is left: none, one, all but one, all")
    private static void exitsOfParts() {
        Desk desk = new Desk();
        desk.program();
        desk.program(LEAVES);
        desk.program(leavesAllBut(new int[] {1, 2, 3, 0, 1}, 0));
        desk.program(loop(0, 4, UP, repeated(5, OTHER, 3, COUNT, 0)),
                loop(1, 0, UP, OTHER, 3, BREAK, 0, EQUAL, 1000, EXIT, 1, ALWAYS, 0, COUNT, 0));
        desk.part(0.0, j -> j.exits(0, 5, 4));
        desk.part(1.0, j -> j.exits(1, 5, 4));
        desk.part(1023.0 / 1024.0, j -> j.exits(2, 5, 4));
        desk.part(1.0 / 1024.0, j -> j.exits(3, 5, 4));
    }

    @Sentence(promise = 19, value = "Returns the part: as a double, of 1 to 729 rows")
    private static void exitsAsDoubles() {
        Desk desk = new Desk();
        desk.program(all(EQUAL, 0, EXIT, 0));
        desk.part(0.0, j -> j.exits(0, 0, 3));
        desk.part(1.0, j -> j.exits(0, 1, 1));
        desk.part(1.0, j -> j.exits(0, 6, 1));
        desk.part(1.0 / 3.0, j -> j.exits(0, 1, 3));
        desk.part(5.0 / 9.0, j -> j.exits(0, 2, 3));
        desk.part(665.0 / 729.0, j -> j.exits(0, 6, 3));
        desk.part(63.0 / 64.0, j -> j.exits(0, 6, 2));
        desk.part(781.0 / 1024.0, j -> j.exits(0, 5, 4));
    }

    @Sentence(promise = 19, value = "is left by EXIT: with the code 0 or 100; not by BREAK, not by none")
    private static void exitsByExitAlone() {
        Desk desk = new Desk();
        desk.program(all(ALWAYS, 0, EXIT, 0));
        desk.program(all(ALWAYS, 0, EXIT, 100));
        desk.program(all(ALWAYS, 0, BREAK, 0, ALWAYS, 0, EXIT, 1));
        desk.program(all(EQUAL, 4, EXIT, 1, LESS, 0, EXIT, 2));
        desk.part(1.0, j -> j.exits(0, 2, 4));
        desk.part(1.0, j -> j.exits(1, 2, 4));
        desk.part(0.0, j -> j.exits(2, 2, 4));
        desk.part(0.0, j -> j.exits(3, 2, 4));
    }

    // ---- promise 20

    /** The promise's sum in numbers without a bound, cut to 64 bits at its end. */
    private static long mixed(long... numbers) {
        BigInteger d = BigInteger.valueOf(373);
        for (long x : numbers) {
            d = d.multiply(BigInteger.valueOf(31)).add(BigInteger.valueOf(x));
        }
        return d.longValue();
    }

    private static void expectDigest(Desk desk, long... numbers) {
        desk.answersAlone(mixed(numbers), LoopJoiner::digest);
    }

    @Sentence(promise = 20, value = "A number d starts with 373: of a new joiner")
    private static void digestOfNothing() {
        new Desk().answers(((((((373L * 31) * 31) * 31) * 31) * 31) * 31) * 31, LoopJoiner::digest);
        expectDigest(new Desk(), 0, 0, 0, 0, 0, 0, 0);
    }

    @Sentence(promise = 20, value = "the number of programs; for each of them the number of its loops: none, one, 9, 10 programs")
    private static void digestOfPrograms() {
        for (int count : new int[] {0, 1, 9, 10}) {
            Desk desk = new Desk();
            for (int program = 0; program < count; program++) {
                desk.program();
            }
            long[] numbers = new long[1 + count + 6];
            numbers[0] = count;
            expectDigest(desk, numbers);
        }
        Desk desk = new Desk();
        desk.program(all());
        desk.program();
        desk.program(all(), all());
        expectDigest(desk, 3, 1, 0, 0, 1, 0, 0, 2, 0, 0, 1, 0, 0, 0, 1, 0, 0, 0, 0, 0, 0, 0);
    }

    @Sentence(promise = 20, value = "for each of these what loop() tells, in its order, and for each of its steps what step() tells, in its order")
    private static void digestOfLoops() {
        Desk desk = new Desk();
        desk.program(loop(5, 4, DOWN, LESS, -100, EXIT, 100, EQUAL, 1003, ADD, 2), loop(1, 2, UP), loop(0, 3, DOWN, GREATER, 7, MARK, 1));
        expectDigest(desk, 1, 3, 5, 4, 0, 2, LESS, -100, EXIT, 100, EQUAL, 1003, ADD, 2,
                1, 2, 1, 0, 0, 3, 0, 1, GREATER, 7, MARK, 1, 0, 0, 0, 0, 0, 0);
    }

    @Sentence(promise = 20, value = "the number of numbers of the row, and these: none, one, 39, 40, and none again")
    private static void digestOfRows() {
        for (int count : new int[] {0, 1, 39, 40}) {
            Desk desk = new Desk();
            long[] row = new long[count];
            long[] numbers = new long[2 + count + 5];
            numbers[1] = count;
            for (int at = 0; at < count; at++) {
                row[at] = at % 2 == 0 ? Long.MIN_VALUE + at : Long.MAX_VALUE - at;
                numbers[2 + at] = row[at];
            }
            desk.row(row);
            expectDigest(desk, numbers);
            desk.row();
            expectDigest(desk, 0, 0, 0, 0, 0, 0, 0);
        }
    }

    @Sentence(promise = 20, value = "what ran() tells, in its order")
    private static void digestOfRuns() {
        Desk desk = new Desk();
        desk.program(all(ALWAYS, 0, ADD, 0, ALWAYS, 0, MARK, 1, ALWAYS, 0, COUNT, 2, ALWAYS, 0, SET, 3));
        desk.row(-7, Long.MIN_VALUE);
        desk.runs(0, -1, Long.MIN_VALUE - 7, 1, 2, Long.MIN_VALUE, 8);
        expectDigest(desk, 1, 1, 0, 0, 1, 4, ALWAYS, 0, ADD, 0, ALWAYS, 0, MARK, 1, ALWAYS, 0, COUNT, 2, ALWAYS, 0, SET, 3,
                2, -7, Long.MIN_VALUE, Long.MAX_VALUE - 6, 1, 2, Long.MIN_VALUE, 8);
    }

    @Sentence(promise = 20, value = "d becomes d * 31 + x, which wraps around as a 64-bit integer: of the fullest joiner")
    private static void digestWraps() {
        Desk desk = new Desk();
        int[] six = loop(5, 5, UP, repeated(6, GREATER, 100, EXIT, 100));
        desk.program(six, six, six, six, six, six, six, six);
        for (int program = 1; program < 10; program++) {
            int due = program;
            desk.answers(due, j -> j.change(0, STRIP, 0, 0));
        }
        long[] row = new long[40];
        long[] numbers = new long[1 + 10 * (1 + 8 * (4 + 24)) + 41 + 5];
        int at = 0;
        numbers[at++] = 10;
        for (int program = 0; program < 10; program++) {
            numbers[at++] = 8;
            for (int k = 0; k < 8; k++) {
                for (int fact : new int[] {5, 5, 1, 6}) {
                    numbers[at++] = fact;
                }
                for (int fact : repeated(6, GREATER, 100, EXIT, 100)) {
                    numbers[at++] = fact;
                }
            }
        }
        numbers[at++] = 40;
        for (int place = 0; place < 40; place++) {
            row[place] = 100 - place;
            numbers[at++] = row[place];
        }
        desk.row(row);
        desk.runs(9, -1, 0, 0, 0, 0, 8 * 6 * 30);
        numbers[numbers.length - 1] = 1440;
        expectDigest(desk, numbers);
    }

    @Sentence(promise = 20, value = "Computes a checksum: it changes nothing, and tells removed steps and loops no more")
    private static void digestOfWhatIsLeft() {
        Desk desk = new Desk();
        desk.program(all(ALWAYS, 0, COUNT, 0), all(ALWAYS, 0, COUNT, 1));
        desk.answers(1, j -> j.joinAll(0));
        expectDigest(desk, 1, 1, 0, 0, 1, 2, ALWAYS, 0, COUNT, 0, ALWAYS, 0, COUNT, 1, 0, 0, 0, 0, 0, 0);
        long before = desk.digest();
        checks.same(place() + " digest again", desk.digest(), before);
        desk.holds(0, all(ALWAYS, 0, COUNT, 0, ALWAYS, 0, COUNT, 1));
    }
}
