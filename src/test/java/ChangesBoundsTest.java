import java.util.Arrays;

/** Each sentence of the promises 13 to 15, and of the terms of the changes, that names a boundary. */
public final class ChangesBoundsTest extends Bench {
    private static final int[] COUNT_0 = {ALWAYS, 0, COUNT, 0};
    private static final int[] COUNT_1 = {ALWAYS, 0, COUNT, 1};

    public static void main(String[] args) {
        runAll(ChangesBoundsTest.class, 13, 15);
    }

    /** What reason() tells of a program of these loops; change() must make it, or refuse it, accordingly. */
    private static void reason(int due, int change, int k, int with, int[]... loops) {
        Desk desk = new Desk();
        desk.program(loops);
        desk.answersAlone(due, j -> j.reason(0, change, k, with));
        if (due == 0) {
            desk.answers(1, j -> j.change(0, change, k, with));
            desk.answers(2, LoopJoiner::programs);
        } else {
            desk.refused(STATE, j -> j.change(0, change, k, with));
        }
    }

    private static void refused(Desk desk, Class<? extends RuntimeException> due, int program, int change, int k, int with) {
        desk.refused(due, j -> j.reason(program, change, k, with));
        desk.refused(due, j -> j.change(program, change, k, with));
    }

    private static int goodWith(int change) {
        return change == DIVIDE || change == PEEL ? 1 : 0;
    }

    private static int[] joined(int[]... parts) {
        int length = 0;
        for (int[] part : parts) {
            length += part.length;
        }
        int[] whole = new int[length];
        int at = 0;
        for (int[] part : parts) {
            System.arraycopy(part, 0, whole, at, part.length);
            at += part.length;
        }
        return whole;
    }

    // ---- promises 13 and 14: the arguments

    @Sentence(promise = 13, value = "reason: IndexOutOfBoundsException if there is no such program")
    private static void reasonTakesPrograms() {
        for (int change = JOIN; change <= STRIP; change++) {
            int each = change;
            for (int count : new int[] {0, 1, 9, 10}) {
                Desk desk = new Desk();
                for (int program = 0; program < count; program++) {
                    desk.program(all(joined(COUNT_0, COUNT_1)), all());
                }
                for (int bad : beyond(0, count - 1)) {
                    refused(desk, INDEX, bad, each, 0, goodWith(each));
                }
                if (count > 0) {
                    desk.answersAlone(0, j -> j.reason(0, each, 0, goodWith(each)));
                    desk.answersAlone(0, j -> j.reason(count - 1, each, 0, goodWith(each)));
                }
            }
        }
    }

    @Sentence(promise = 14, value = "change: of any program, the first and the last one; the old one stays")
    private static void changeTakesPrograms() {
        for (int change = JOIN; change <= STRIP; change++) {
            int each = change;
            Desk desk = new Desk();
            int[][] loops = {all(joined(COUNT_0, COUNT_1)), all()};
            for (int program = 0; program < 8; program++) {
                desk.program(loops);
            }
            desk.answers(8, j -> j.change(0, each, 0, goodWith(each)));
            desk.answers(9, j -> j.change(7, each, 0, goodWith(each)));
            desk.holds(0, loops);
            desk.holds(7, loops);
        }
    }

    @Sentence(promise = 13, value = "change is not 0 to 5")
    private static void takesChanges() {
        Desk desk = new Desk();
        desk.program(all(joined(COUNT_0, COUNT_1)), all());
        for (int bad : beyond(0, 5)) {
            refused(desk, INDEX, 0, bad, 0, 0);
            refused(desk, INDEX, 0, bad, 0, 1);
        }
        for (int change = JOIN; change <= STRIP; change++) {
            int good = change;
            desk.answersAlone(0, j -> j.reason(0, good, 0, goodWith(good)));
            desk.answers(good + 1, j -> j.change(0, good, 0, goodWith(good)));
        }
    }

    @Sentence(promise = 13, value = "there is no such loop (for join and swap also the next one; for strip loop is not 0)")
    private static void takesLoops() {
        for (int change = JOIN; change <= STRIP; change++) {
            int each = change;
            for (int count : new int[] {0, 1, 2, 7, 8}) {
                Desk desk = new Desk();
                int[][] loops = new int[count][];
                for (int k = 0; k < count; k++) {
                    loops[k] = all(ALWAYS, 0, COUNT, k % 4, ALWAYS, 0, COUNT, k % 4);
                }
                desk.program(loops);
                desk.program(filledTo(8));
                int last = each == STRIP ? 0 : each == JOIN || each == SWAP ? count - 2 : count - 1;
                for (int bad : beyond(0, Math.max(last, -1))) {
                    refused(desk, INDEX, 0, each, bad, goodWith(each));
                }
                if (last >= 0) {
                    desk.accepted(j -> j.reason(0, each, 0, goodWith(each)));
                    desk.accepted(j -> j.reason(0, each, last, goodWith(each)));
                }
            }
        }
    }

    @Sentence(promise = 13, value = "with is not as told: otherwise 0")
    private static void takesNothingElse() {
        for (int change : new int[] {JOIN, TURN, SWAP, STRIP}) {
            Desk desk = new Desk();
            desk.program(all(COUNT_0), all(COUNT_1));
            for (int bad : beyond(0, 0)) {
                refused(desk, ARGUMENT, 0, change, 0, bad);
            }
            desk.answersAlone(0, j -> j.reason(0, change, 0, 0));
            desk.answers(1, j -> j.change(0, change, 0, 0));
        }
    }

    @Sentence(promise = 13, value = "for peel n, 1 to 10")
    private static void takesNumbersToPeel() {
        Desk desk = new Desk();
        desk.program(loop(4, 5, UP), loop(0, 0, UP));
        for (int bad : beyond(1, 10)) {
            refused(desk, ARGUMENT, 0, PEEL, 0, bad);
            refused(desk, ARGUMENT, 0, PEEL, 1, bad);
        }
        desk.answersAlone(0, j -> j.reason(0, PEEL, 0, 10));
        desk.answersAlone(0, j -> j.reason(0, PEEL, 1, 1));
        desk.answersAlone(8, j -> j.reason(0, PEEL, 0, 1));
        desk.answersAlone(8, j -> j.reason(0, PEEL, 1, 10));
        desk.answers(1, j -> j.change(0, PEEL, 0, 10));
        desk.answers(2, j -> j.change(0, PEEL, 1, 1));
    }

    @Sentence(promise = 13, value = "for divide the step i: 1 to the number of its steps less 1")
    private static void takesStepsToDivide() {
        for (int steps = 0; steps <= 6; steps++) {
            Desk desk = new Desk();
            desk.program(all(repeated(6, ALWAYS, 0, EXIT, 1)), all(repeated(steps, EQUAL, 3, EXIT, 1)),
                    all(repeated(6, ALWAYS, 0, EXIT, 1)));
            for (int bad : beyond(1, Math.max(steps - 1, 0))) {
                refused(desk, ARGUMENT, 0, DIVIDE, 1, bad);
            }
            for (int i = 1; i < steps; i++) {
                int good = i;
                desk.answersAlone(3, j -> j.reason(0, DIVIDE, 1, good));
            }
        }
    }

    @Sentence(promise = 13, value = "the exception that is named first: program, change, loop, then with")
    private static void refusesInOrder() {
        Desk desk = new Desk();
        desk.program(all(joined(COUNT_0, COUNT_1)), all());
        refused(desk, INDEX, 1, JOIN, 0, 1);
        refused(desk, INDEX, -1, DIVIDE, 0, 0);
        refused(desk, INDEX, 1, PEEL, 0, 11);
        refused(desk, INDEX, 0, 6, 0, 7);
        refused(desk, INDEX, 0, -1, 0, 7);
        refused(desk, INDEX, 0, JOIN, 1, 1);
        refused(desk, INDEX, 0, SWAP, 1, 1);
        refused(desk, INDEX, 0, STRIP, 1, 1);
        refused(desk, INDEX, 0, DIVIDE, 2, 0);
        refused(desk, INDEX, 0, DIVIDE, -1, 0);
        refused(desk, INDEX, 0, PEEL, 2, 0);
        refused(desk, INDEX, 0, TURN, 2, 1);
    }

    @Sentence(promise = 14, value = "Throws IllegalStateException if reason() is not 0: behind the other exceptions")
    private static void changeRefusesReasonsLast() {
        Desk desk = new Desk();
        desk.program(loop(0, 0, DOWN, ALWAYS, 0, BREAK, 0, ALWAYS, 0, SET, 0), all(ALWAYS, 0, SET, 0));
        for (int change = JOIN; change <= SWAP; change++) {
            int each = change;
            desk.refused(STATE, j -> j.change(0, each, 0, goodWith(each)));
            desk.refused(ARGUMENT, j -> j.change(0, each, 0, -1));
            desk.refused(INDEX, j -> j.change(0, each, 2, goodWith(each)));
            desk.refused(INDEX, j -> j.change(1, each, 0, goodWith(each)));
        }
    }

    @Sentence(promise = 14, value = "Throws IllegalStateException if there are 10 programs: behind the other exceptions")
    private static void changeRefusesEleventhProgram() {
        Desk desk = new Desk();
        desk.program(all(joined(COUNT_0, COUNT_1)), all());
        for (int program = 1; program < 9; program++) {
            desk.program();
        }
        desk.answers(9, j -> j.change(0, STRIP, 0, 0));
        for (int change = JOIN; change <= STRIP; change++) {
            int each = change;
            desk.answersAlone(0, j -> j.reason(0, each, 0, goodWith(each)));
            desk.refused(STATE, j -> j.change(0, each, 0, goodWith(each)));
            desk.refused(ARGUMENT, j -> j.change(0, each, 0, -1));
            desk.refused(INDEX, j -> j.change(0, each, 2, goodWith(each)));
            desk.refused(INDEX, j -> j.change(10, each, 0, goodWith(each)));
        }
        desk.refused(INDEX, j -> j.change(0, 6, 0, 0));
        desk.answers(10, LoopJoiner::programs);
    }

    @Sentence(promise = 14, value = "Returns the number of the new program: to the tenth")
    private static void changeNumbersPrograms() {
        Desk desk = new Desk();
        desk.program(all(COUNT_0));
        for (int number = 1; number < 10; number++) {
            int due = number;
            desk.answers(due, j -> j.change(due - 1, TURN, 0, 0));
            desk.answers(due % 2 == 0 ? 1 : 0, j -> j.loop(due, 0, 2));
        }
        desk.refused(STATE, j -> j.change(9, TURN, 0, 0));
    }

    @Sentence(promise = 14, value = "Makes a new program: neither one changes with the other")
    private static void changeSharesNothing() {
        for (int change = JOIN; change <= STRIP; change++) {
            int each = change;
            int[][] loops = {all(joined(COUNT_0, COUNT_1)), all(ALWAYS, 0, MARK, 2, EQUAL, 1, COUNT, 2)};
            Desk desk = new Desk();
            desk.program(loops);
            desk.answers(1, j -> j.change(0, each, 0, goodWith(each)));
            desk.accepted(j -> j.addLoop(1, 5, 5, false));
            desk.accepted(j -> j.addStep(1, 0, ALWAYS, 0, BREAK, 0));
            desk.accepted(j -> j.joinAll(1));
            desk.holds(0, loops);
            int was = each == JOIN ? 4 : each == DIVIDE ? 1 : 2;
            desk.accepted(j -> j.addStep(0, 0, ALWAYS, 0, ADD, 0));
            desk.answers(was + 1, j -> j.loop(1, 0, 3));
        }
    }

    // ---- join

    @Sentence(promise = 13, value = "join 1, they have not the same skip, stop and direction")
    private static void joinsSameRanges() {
        for (int number = 0; number <= 5; number++) {
            reason(0, JOIN, 0, 0, loop(number, 5 - number, UP), loop(number, 5 - number, UP));
            reason(0, JOIN, 0, 0, loop(5 - number, number, DOWN), loop(5 - number, number, DOWN));
            reason(1, JOIN, 0, 0, loop(number, 3, UP), loop((number + 1) % 6, 3, UP));
            reason(1, JOIN, 0, 0, loop((number + 1) % 6, 3, UP), loop(number, 3, UP));
            reason(1, JOIN, 0, 0, loop(3, number, DOWN), loop(3, (number + 1) % 6, DOWN));
            reason(1, JOIN, 0, 0, loop(3, (number + 1) % 6, DOWN), loop(3, number, DOWN));
        }
        reason(1, JOIN, 0, 0, loop(2, 2, UP), loop(2, 2, DOWN));
        reason(1, JOIN, 0, 0, loop(2, 2, DOWN), loop(2, 2, UP));
        reason(1, JOIN, 0, 0, loop(2, 3, UP), loop(3, 2, UP));
    }

    @Sentence(promise = 13, value = "join 2, one of them has a BREAK: at any step, of any look")
    private static void joinsWithoutBreak() {
        int[] plain = all(COUNT_1);
        for (int at = 0; at < 5; at++) {
            int[] broken = all(joined(repeated(at, COUNT_0), new int[] {GREATER, 100, BREAK, 0}, repeated(4 - at, COUNT_0)));
            reason(2, JOIN, 0, 0, broken, plain);
            reason(2, JOIN, 0, 0, plain, broken);
            reason(2, JOIN, 0, 0, broken, broken);
        }
        reason(2, JOIN, 0, 0, all(ALWAYS, 0, BREAK, 0), all());
        reason(2, JOIN, 0, 0, all(), all(ALWAYS, 0, BREAK, 0));
        reason(0, JOIN, 1, 0, all(ALWAYS, 0, BREAK, 0), plain, all(COUNT_0), all(ALWAYS, 0, BREAK, 0));
    }

    @Sentence(promise = 13, value = "join 3, both have an EXIT")
    private static void joinsOneExit() {
        int[] zero = all(EQUAL, 1, EXIT, 0);
        int[] most = all(EQUAL, 1, COUNT, 3, EQUAL, 2, EXIT, 100);
        reason(3, JOIN, 0, 0, zero, most);
        reason(3, JOIN, 0, 0, most, zero);
        reason(3, JOIN, 0, 0, zero, zero);
        reason(0, JOIN, 0, 0, zero, all());
        reason(0, JOIN, 0, 0, all(), most);
        reason(0, JOIN, 0, 0, most, all(COUNT_0));
        reason(0, JOIN, 0, 0, all(COUNT_0), zero);
        reason(0, JOIN, 0, 0, all(EQUAL, 1, EXIT, 0, EQUAL, 2, EXIT, 1), all(COUNT_0));
    }

    @Sentence(promise = 13, value = "apart, if no variable that one of them writes is read or written by the other one")
    private static void joinsWhatIsApart() {
        for (int deed = SET; deed <= ADD; deed++) {
            for (int v = 0; v <= 3; v++) {
                int[] writes = all(ALWAYS, 0, deed, v);
                for (int other = 0; other <= 3; other++) {
                    int due = other == v ? 4 : 0;
                    for (int later = SET; later <= ADD; later++) {
                        reason(due, JOIN, 0, 0, writes, all(ALWAYS, 0, later, other));
                    }
                    for (int look = EQUAL; look <= GREATER; look++) {
                        reason(due, JOIN, 0, 0, writes, all(look, 1000 + other, EXIT, 1));
                        reason(due, JOIN, 0, 0, all(look, 1000 + other, EXIT, 1), writes);
                    }
                    reason(0, JOIN, 0, 0, writes, all(ALWAYS, 1000 + other, EXIT, 1));
                    reason(0, JOIN, 0, 0, all(ALWAYS, 1000 + other, EXIT, 1), writes);
                    reason(0, JOIN, 0, 0, writes, all(EQUAL, other, EXIT, other));
                    reason(0, JOIN, 0, 0, all(EQUAL, other, EXIT, other), writes);
                }
            }
        }
    }

    @Sentence(promise = 13, value = "apart: what both only look with is not written; a later step counts as the first does")
    private static void joinsWhatIsApartByAnyStep() {
        reason(0, JOIN, 0, 0, all(EQUAL, 1003, COUNT, 0), all(EQUAL, 1003, COUNT, 1));
        int[] third = all(ALWAYS, 0, COUNT, 0, ALWAYS, 0, COUNT, 0, ALWAYS, 0, SET, 3);
        reason(4, JOIN, 0, 0, third, all(ALWAYS, 0, COUNT, 1, ALWAYS, 0, COUNT, 1, EQUAL, 1003, COUNT, 1));
        reason(4, JOIN, 0, 0, third, all(ALWAYS, 0, COUNT, 1, ALWAYS, 0, COUNT, 1, ALWAYS, 0, MARK, 3));
        reason(4, JOIN, 0, 0, all(ALWAYS, 0, COUNT, 1, ALWAYS, 0, COUNT, 1, EQUAL, 1003, COUNT, 1), third);
        reason(0, JOIN, 0, 0, third, all(ALWAYS, 0, COUNT, 1, ALWAYS, 0, COUNT, 2, EQUAL, 1002, COUNT, 1));
        reason(0, JOIN, 0, 0, all(), all());
        reason(0, JOIN, 0, 0, third, all());
        reason(0, JOIN, 0, 0, all(), third);
    }

    @Sentence(promise = 13, value = "join 5, there would be more than 6 steps")
    private static void joinsToSixSteps() {
        for (int first = 0; first <= 6; first++) {
            for (int second = 0; second <= 6; second++) {
                reason(first + second > 6 ? 5 : 0, JOIN, 0, 0, all(repeated(first, COUNT_0)), all(repeated(second, COUNT_1)));
            }
        }
    }

    @Sentence(promise = 13, value = "join: the first reason in the order in which they are told")
    private static void joinTellsReasonsInOrder() {
        int[] breaks = {EQUAL, 1, BREAK, 0};
        int[] exits = {EQUAL, 1, EXIT, 1};
        int[] six0 = repeated(6, COUNT_0);
        int[] six1 = repeated(6, COUNT_1);
        int[] five0 = repeated(5, COUNT_0);
        int[] five1 = repeated(5, COUNT_1);
        reason(1, JOIN, 0, 0, all(breaks), loop(1, 0, UP));
        reason(1, JOIN, 0, 0, all(exits), loop(0, 1, UP, exits));
        reason(1, JOIN, 0, 0, all(COUNT_0), loop(0, 0, DOWN, COUNT_0));
        reason(1, JOIN, 0, 0, all(six0), loop(0, 0, DOWN, six1));
        reason(2, JOIN, 0, 0, all(joined(breaks, exits)), all(exits));
        reason(2, JOIN, 0, 0, all(joined(breaks, COUNT_0)), all(COUNT_0));
        reason(2, JOIN, 0, 0, all(joined(five0, breaks)), all(five1));
        reason(3, JOIN, 0, 0, all(joined(COUNT_0, exits)), all(joined(COUNT_0, exits)));
        reason(3, JOIN, 0, 0, all(joined(five0, exits)), all(joined(five1, exits)));
        reason(4, JOIN, 0, 0, all(six0), all(six0));
        reason(5, JOIN, 0, 0, all(six0), all(six1));
    }

    @Sentence(promise = 14, value = "join: one loop with the steps of the first one, then those of the second one, in their place")
    private static void makesJoins() {
        int[] head = loop(5, 5, DOWN, EQUAL, 1, BREAK, 0);
        int[] first = {LESS, -100, COUNT, 0, EQUAL, 1003, MARK, 1, GREATER, 100, ADD, 0};
        int[] second = {EQUAL, 1002, EXIT, 77, ALWAYS, 1000, EXIT, 0, OTHER, 5, COUNT, 2};
        int[] tail = loop(0, 3, UP, GREATER, 9, SET, 2);
        Desk desk = new Desk();
        desk.program(head, loop(1, 2, DOWN, first), loop(1, 2, DOWN, second), tail);
        desk.answers(1, j -> j.change(0, JOIN, 1, 0));
        desk.holds(1, head, loop(1, 2, DOWN, joined(first, second)), tail);
        desk.holds(0, head, loop(1, 2, DOWN, first), loop(1, 2, DOWN, second), tail);
    }

    @Sentence(promise = 14, value = "join: at the ends of 8 loops, and of loops without steps")
    private static void makesJoinsAtTheEnds() {
        int[][] eight = filledTo(8, all(COUNT_0), all(COUNT_1));
        eight[7] = all(ALWAYS, 0, COUNT, 3);
        Desk desk = new Desk();
        desk.program(eight);
        desk.answers(1, j -> j.change(0, JOIN, 0, 0));
        desk.answers(2, j -> j.change(0, JOIN, 6, 0));
        desk.answers(3, j -> j.change(0, JOIN, 2, 0));
        desk.holds(1, all(joined(COUNT_0, COUNT_1)), all(), all(), all(), all(), all(), eight[7]);
        desk.holds(2, all(COUNT_0), all(COUNT_1), all(), all(), all(), all(), eight[7]);
        desk.holds(3, all(COUNT_0), all(COUNT_1), all(), all(), all(), all(), eight[7]);
        desk.holds(0, eight);
    }

    // ---- the loops beside those that are changed

    /** Six steps, others in each loop k: no BREAK, one EXIT at most, and variables of its own for k and k + 1. */
    private static int[] sixOf(int k) {
        int v = 2 * (k % 2);
        return new int[] {LESS, k, COUNT, v, OTHER, -k, ADD, v, EQUAL, 10 + k, COUNT, v,
            GREATER, 100 - k, COUNT, v + 1, LESS, 20 + k, ADD, v + 1, OTHER, 30 + k, ADD, v + 1};
    }

    private static int[][] fullLoops(int count) {
        int[][] loops = new int[count][];
        for (int k = 0; k < count; k++) {
            loops[k] = loop(k % 5, k % 5, UP, sixOf(k));
        }
        return loops;
    }

    /** The loops with those from k to end - 1 replaced by others. */
    private static int[][] replaced(int[][] loops, int k, int end, int[]... others) {
        int[][] fresh = Arrays.copyOf(loops, loops.length - (end - k) + others.length);
        System.arraycopy(others, 0, fresh, k, others.length);
        System.arraycopy(loops, end, fresh, k + others.length, loops.length - end);
        return fresh;
    }

    private static void makes(int[][] old, int change, int k, int with, int[]... due) {
        Desk desk = new Desk();
        desk.program(old);
        desk.answers(1, j -> j.change(0, change, k, with));
        desk.holds(1, due);
        Desk after = new Desk();
        after.program(old);
        after.answers(1, j -> j.change(0, change, k, with));
        after.holds(0, old);
    }

    @Sentence(promise = 14, value = "a new program, which is like the old one but for what is told: of 7 and 8 loops of 6 steps")
    private static void changesNothingElse() {
        for (int count : new int[] {7, 8}) {
            int[][] full = fullLoops(count);
            for (int k = 0; k < count; k++) {
                int number = k % 5;
                int[] six = sixOf(k);
                makes(full, TURN, k, 0, replaced(full, k, k + 1, loop(number, number, DOWN, six)));
                if (k + 1 < count) {
                    makes(full, SWAP, k, 0, replaced(full, k, k + 2, full[k + 1], full[k]));
                }
            }
            makes(full, STRIP, 0, 0, full);
        }
        int[][] seven = fullLoops(7);
        for (int k = 0; k < 7; k++) {
            int number = k % 5;
            int[] six = sixOf(k);
            makes(seven, DIVIDE, k, 3, replaced(seven, k, k + 1, loop(number, number, UP, Arrays.copyOf(six, 12)),
                    loop(number, number, UP, Arrays.copyOfRange(six, 12, 24))));
            makes(seven, PEEL, k, number + 6, replaced(seven, k, k + 1, loop(number, 5, UP, six), loop(number + 1, number, UP, six)));
        }
    }

    @Sentence(promise = 14, value = "join: the other loops stay, of 8 with 6 steps")
    private static void joinChangesNothingElse() {
        int[][] seven = fullLoops(7);
        for (int k = 0; k < 7; k++) {
            int[] six = sixOf(k);
            int[] first = loop(2, 1, DOWN, Arrays.copyOf(six, 12));
            int[] second = loop(2, 1, DOWN, Arrays.copyOfRange(six, 12, 24));
            makes(replaced(seven, k, k + 1, first, second), JOIN, k, 0, replaced(seven, k, k + 1, loop(2, 1, DOWN, six)));
            makes(replaced(seven, k, k + 1, all(), all()), JOIN, k, 0, replaced(seven, k, k + 1, all()));
            makes(replaced(seven, k, k + 1, all(), all()), STRIP, 0, 0, replaced(seven, k, k + 1));
        }
    }

    @Sentence(promise = 14, value = "what a change left out is in no later change")
    private static void changesForgetWhatIsLeftOut() {
        Desk desk = new Desk();
        desk.program(all(joined(COUNT_0, new int[] {ALWAYS, 0, EXIT, 1})));
        desk.answers(1, j -> j.change(0, DIVIDE, 0, 1));
        desk.answers(2, j -> j.change(1, STRIP, 0, 0));
        desk.holds(2, all(COUNT_0), all(ALWAYS, 0, EXIT, 1));
        desk.answersAlone(0, j -> j.reason(1, SWAP, 0, 0));
        desk.program(all(ALWAYS, 0, EXIT, 4, ALWAYS, 0, EXIT, 5, ALWAYS, 0, SET, 0, ALWAYS, 0, BREAK, 0, EQUAL, 1001, COUNT, 1),
                all(EQUAL, 1000, COUNT, 1));
        desk.answersAlone(2, j -> j.reason(3, TURN, 0, 0));
        desk.answersAlone(2, j -> j.reason(3, JOIN, 0, 0));
        desk.answersAlone(4, j -> j.reason(3, SWAP, 0, 0));
        desk.answers(4, j -> j.change(3, STRIP, 0, 0));
        desk.answersAlone(0, j -> j.reason(4, TURN, 0, 0));
        desk.answersAlone(0, j -> j.reason(4, JOIN, 0, 0));
        desk.answersAlone(0, j -> j.reason(4, SWAP, 0, 0));
        desk.refused(ARGUMENT, j -> j.reason(4, DIVIDE, 0, 1));
    }

    // ---- divide

    @Sentence(promise = 13, value = "divide 2, it has a BREAK: at any step")
    private static void dividesWithoutBreak() {
        for (int at = 0; at < 6; at++) {
            int[] broken = all(joined(repeated(at, COUNT_0), new int[] {LESS, 0, BREAK, 0}, repeated(5 - at, COUNT_0)));
            for (int i = 1; i <= 5; i++) {
                reason(2, DIVIDE, 0, i, broken);
            }
        }
        int[] broken = all(ALWAYS, 0, BREAK, 0);
        reason(0, DIVIDE, 1, 1, broken, all(joined(COUNT_0, COUNT_1)), broken);
    }

    @Sentence(promise = 13, value = "divide 3, both parts have an EXIT")
    private static void dividesOneExit() {
        int[] exits = {EQUAL, 1, EXIT, 4};
        int[] loop = all(joined(COUNT_0, exits, exits, COUNT_1));
        reason(0, DIVIDE, 0, 1, loop);
        reason(3, DIVIDE, 0, 2, loop);
        reason(0, DIVIDE, 0, 3, loop);
        int[] ends = all(joined(exits, repeated(4, COUNT_0), exits));
        for (int i = 1; i <= 5; i++) {
            reason(3, DIVIDE, 0, i, ends);
        }
    }

    @Sentence(promise = 13, value = "divide 4, the parts are not apart")
    private static void dividesWhatIsApart() {
        int[] loop = all(ALWAYS, 0, SET, 0, EQUAL, 1000, COUNT, 1, ALWAYS, 1001, MARK, 2, GREATER, 1003, ADD, 2, LESS, 1, COUNT, 3);
        reason(4, DIVIDE, 0, 1, loop);
        reason(0, DIVIDE, 0, 2, loop);
        reason(4, DIVIDE, 0, 3, loop);
        reason(4, DIVIDE, 0, 4, loop);
        for (int v = 0; v <= 3; v++) {
            for (int other = 0; other <= 3; other++) {
                int due = v == other ? 4 : 0;
                reason(due, DIVIDE, 0, 1, all(ALWAYS, 0, MARK, v, EQUAL, 1000 + other, EXIT, 1));
                reason(due, DIVIDE, 0, 1, all(EQUAL, 1000 + other, EXIT, 1, ALWAYS, 0, SET, v));
                reason(due, DIVIDE, 0, 1, all(ALWAYS, 0, COUNT, v, ALWAYS, 0, ADD, other));
                reason(0, DIVIDE, 0, 1, all(ALWAYS, 0, COUNT, v, ALWAYS, 1000 + other, EXIT, 0));
            }
        }
        int[] own0 = {LESS, 1000, SET, 0};
        int[] own1 = {LESS, 1001, SET, 1};
        reason(0, DIVIDE, 0, 1, all(joined(own0, own1)));
        reason(0, DIVIDE, 0, 2, all(joined(own0, own0, own1, own1)));
        reason(4, DIVIDE, 0, 1, all(joined(own0, own0, own1, own1)));
        reason(4, DIVIDE, 0, 3, all(joined(own0, own0, own1, own1)));
    }

    @Sentence(promise = 13, value = "divide 6, there would be more than 8 loops")
    private static void dividesToEightLoops() {
        int[] two = all(joined(COUNT_0, COUNT_1));
        for (int count = 1; count <= 8; count++) {
            int[][] loops = filledTo(count);
            loops[0] = two;
            loops[count - 1] = two;
            reason(count == 8 ? 6 : 0, DIVIDE, 0, 1, loops);
            reason(count == 8 ? 6 : 0, DIVIDE, count - 1, 1, loops);
        }
    }

    @Sentence(promise = 13, value = "divide: the first reason in the order in which they are told")
    private static void divideTellsReasonsInOrder() {
        int[] breaks = {EQUAL, 1, BREAK, 0};
        int[] exits = {EQUAL, 1, EXIT, 1};
        reason(2, DIVIDE, 0, 1, all(joined(exits, exits, breaks)));
        reason(2, DIVIDE, 0, 1, all(joined(COUNT_0, COUNT_0, breaks)));
        reason(2, DIVIDE, 0, 1, filledTo(8, all(joined(COUNT_0, breaks))));
        reason(3, DIVIDE, 0, 2, all(joined(COUNT_0, exits, COUNT_0, exits)));
        reason(3, DIVIDE, 0, 1, filledTo(8, all(joined(exits, exits))));
        reason(4, DIVIDE, 0, 1, filledTo(8, all(joined(COUNT_0, COUNT_0))));
        reason(6, DIVIDE, 0, 1, filledTo(8, all(joined(COUNT_0, exits))));
    }

    @Sentence(promise = 14, value = "divide: two loops in its place, one with the steps ahead of i, one with those from i on")
    private static void makesDivides() {
        int[] four = {LESS, -3, EXIT, 8, EQUAL, 1001, COUNT, 0, ALWAYS, 1003, MARK, 2, OTHER, 6, ADD, 3};
        for (int i = 1; i <= 3; i++) {
            makesDivide(four, i);
        }
        int[] six = joined(new int[] {GREATER, 7, EXIT, 100, ALWAYS, 0, EXIT, 0}, four);
        for (int i = 3; i <= 5; i++) {
            makesDivide(six, i);
        }
        makesDivide(joined(COUNT_1, repeated(5, COUNT_0)), 1);
        makesDivide(joined(repeated(2, COUNT_1), repeated(4, COUNT_0)), 2);
        makesDivide(joined(COUNT_0, COUNT_1), 1);
    }

    private static void makesDivide(int[] steps, int i) {
        int[] head = loop(5, 5, DOWN, EQUAL, 1, BREAK, 0);
        int[] tail = loop(0, 3, UP, GREATER, 9, SET, 2);
        int[] ahead = Arrays.copyOf(steps, 4 * i);
        int[] behind = Arrays.copyOfRange(steps, 4 * i, steps.length);
        Desk desk = new Desk();
        desk.program(head, loop(3, 1, DOWN, steps), tail);
        desk.answers(1, j -> j.change(0, DIVIDE, 1, i));
        desk.holds(1, head, loop(3, 1, DOWN, ahead), loop(3, 1, DOWN, behind), tail);
        desk.holds(0, head, loop(3, 1, DOWN, steps), tail);
    }

    @Sentence(promise = 14, value = "divide: at the ends of 7 loops")
    private static void makesDividesAtTheEnds() {
        int[] two = loop(1, 0, UP, joined(COUNT_0, COUNT_1));
        int[][] seven = filledTo(7);
        seven[0] = two;
        seven[6] = two;
        Desk desk = new Desk();
        desk.program(seven);
        desk.answers(1, j -> j.change(0, DIVIDE, 0, 1));
        desk.answers(2, j -> j.change(0, DIVIDE, 6, 1));
        desk.holds(1, loop(1, 0, UP, COUNT_0), loop(1, 0, UP, COUNT_1), all(), all(), all(), all(), all(), two);
        desk.holds(2, two, all(), all(), all(), all(), all(), loop(1, 0, UP, COUNT_0), loop(1, 0, UP, COUNT_1));
    }

    // ---- peel

    @Sentence(promise = 13, value = "peel 7, the direction is down")
    private static void peelsUpwards() {
        reason(7, PEEL, 0, 1, loop(0, 0, DOWN));
        reason(7, PEEL, 0, 3, loop(1, 1, DOWN, COUNT_0));
        reason(0, PEEL, 0, 1, loop(0, 0, UP));
        reason(0, PEEL, 0, 3, loop(1, 1, UP, COUNT_0));
    }

    @Sentence(promise = 13, value = "peel 8, skip + stop is greater than n - 1")
    private static void peelsRowsThatAreLongEnough() {
        for (int skip = 0; skip <= 4; skip++) {
            for (int stop = 0; stop <= 5; stop++) {
                reason(0, PEEL, 0, skip + stop + 1, loop(skip, stop, UP, COUNT_0));
                if (skip + stop > 0) {
                    reason(8, PEEL, 0, skip + stop, loop(skip, stop, UP, COUNT_0));
                    reason(8, PEEL, 0, 1, loop(skip, stop, UP, COUNT_0));
                }
            }
        }
    }

    @Sentence(promise = 13, value = "peel 8, or n - 1 - skip is greater than 5")
    private static void peelsToStopFive() {
        for (int skip = 0; skip <= 4; skip++) {
            reason(0, PEEL, 0, skip + 5, loop(skip, 0, UP, COUNT_0));
            reason(0, PEEL, 0, skip + 6, loop(skip, 0, UP, COUNT_0));
            reason(0, PEEL, 0, skip + 6, loop(skip, 5, UP, COUNT_0));
            if (skip + 7 <= 10) {
                reason(8, PEEL, 0, skip + 7, loop(skip, 0, UP, COUNT_0));
                reason(8, PEEL, 0, skip + 7, loop(skip, 5, UP, COUNT_0));
                reason(8, PEEL, 0, 10, loop(skip, 0, UP, COUNT_0));
            }
        }
    }

    @Sentence(promise = 13, value = "peel 8, or skip + 1 is greater than 5")
    private static void peelsToSkipFive() {
        for (int n = 6; n <= 10; n++) {
            reason(8, PEEL, 0, n, loop(5, 0, UP, COUNT_0));
            reason(0, PEEL, 0, n, loop(4, 0, UP, COUNT_0));
        }
        reason(8, PEEL, 0, 10, loop(5, 4, UP, COUNT_0));
    }

    @Sentence(promise = 13, value = "peel 2, it has a BREAK: at any step")
    private static void peelsWithoutBreak() {
        for (int at = 0; at < 6; at++) {
            reason(2, PEEL, 0, 3, all(joined(repeated(at, COUNT_0), new int[] {LESS, 0, BREAK, 0}, repeated(5 - at, COUNT_0))));
        }
        int[] broken = all(ALWAYS, 0, BREAK, 0);
        reason(0, PEEL, 1, 3, broken, all(repeated(6, LESS, 1000, EXIT, 9)), broken);
    }

    @Sentence(promise = 13, value = "peel 6, there would be more than 8 loops")
    private static void peelsToEightLoops() {
        for (int count = 1; count <= 8; count++) {
            reason(count == 8 ? 6 : 0, PEEL, 0, 3, filledTo(count));
            reason(count == 8 ? 6 : 0, PEEL, count - 1, 3, filledTo(count));
        }
    }

    @Sentence(promise = 13, value = "peel: the first reason in the order in which they are told, 7, 8, 2, 6")
    private static void peelTellsReasonsInOrder() {
        int[] breaks = {EQUAL, 1, BREAK, 0};
        reason(7, PEEL, 0, 1, loop(1, 0, DOWN));
        reason(7, PEEL, 0, 7, loop(0, 0, DOWN));
        reason(7, PEEL, 0, 6, loop(5, 0, DOWN));
        reason(7, PEEL, 0, 3, loop(0, 0, DOWN, breaks));
        reason(7, PEEL, 0, 3, filledTo(8, loop(0, 0, DOWN)));
        reason(8, PEEL, 0, 1, loop(1, 0, UP, breaks));
        reason(8, PEEL, 0, 7, loop(0, 0, UP, breaks));
        reason(8, PEEL, 0, 6, loop(5, 0, UP, breaks));
        reason(8, PEEL, 0, 1, filledTo(8, loop(0, 1, UP)));
        reason(8, PEEL, 0, 7, filledTo(8, loop(0, 0, UP)));
        reason(8, PEEL, 0, 6, filledTo(8, loop(5, 0, UP)));
        reason(2, PEEL, 0, 3, filledTo(8, all(breaks)));
        reason(6, PEEL, 0, 3, filledTo(8, all(COUNT_0)));
    }

    @Sentence(promise = 14, value = "peel: for rows of just n numbers both do together what the loop did")
    private static void makesPeels() {
        int made = 0;
        for (int skip = 0; skip <= 4; skip++) {
            for (int n = skip + 1; n <= Math.min(10, skip + 6); n++) {
                for (int stop = 0; stop <= Math.min(5, n - 1 - skip); stop++) {
                    makesPeel(skip, stop, n);
                    made++;
                }
            }
        }
        checks.same(place() + " peels made", made, 5 * (1 + 2 + 3 + 4 + 5 + 6));
    }

    private static void makesPeel(int skip, int stop, int n) {
        int[] steps = {LESS, 1000, SET, 0, ALWAYS, 0, COUNT, 1, EQUAL, 9, ADD, 2, GREATER, 1000, MARK, 3};
        int[] head = loop(1, 1, DOWN, ALWAYS, 0, ADD, 3);
        Desk desk = new Desk();
        desk.program(head, loop(skip, stop, UP, steps), head);
        desk.answers(1, j -> j.change(0, PEEL, 1, n));
        desk.holds(1, head, loop(skip, n - 1 - skip, UP, steps), loop(skip + 1, stop, UP, steps), head);
        desk.holds(0, head, loop(skip, stop, UP, steps), head);
        desk.program(loop(skip, n - 1 - skip, UP, ALWAYS, 0, COUNT, 0));
        desk.row(new long[n]);
        desk.runs(2, -1, 1, 0, 0, 0, 1);
        desk.program(loop(skip, stop, UP, ALWAYS, 0, MARK, 0, ALWAYS, 0, COUNT, 1));
        desk.answers(4, j -> j.change(3, PEEL, 0, n));
        desk.runs(4, -1, n - 1 - stop, n - skip - stop, 0, 0, 2 * (n - skip - stop));
    }

    @Sentence(promise = 14, value = "peel: at the ends of 7 loops")
    private static void makesPeelsAtTheEnds() {
        int[] one = all(joined(COUNT_0, COUNT_1));
        int[][] seven = filledTo(7);
        seven[0] = one;
        seven[6] = one;
        Desk desk = new Desk();
        desk.program(seven);
        desk.answers(1, j -> j.change(0, PEEL, 0, 6));
        desk.answers(2, j -> j.change(0, PEEL, 6, 1));
        desk.holds(1, loop(0, 5, UP, joined(COUNT_0, COUNT_1)), loop(1, 0, UP, joined(COUNT_0, COUNT_1)),
                all(), all(), all(), all(), all(), one);
        desk.holds(2, one, all(), all(), all(), all(), all(), one, loop(1, 0, UP, joined(COUNT_0, COUNT_1)));
    }

    // ---- turn

    @Sentence(promise = 13, value = "turn 2, it has a BREAK: at any step")
    private static void turnsWithoutBreak() {
        for (int at = 0; at < 6; at++) {
            reason(2, TURN, 0, 0, all(joined(repeated(at, COUNT_0), new int[] {LESS, 0, BREAK, 0}, repeated(5 - at, COUNT_0))));
        }
        int[] broken = all(ALWAYS, 0, BREAK, 0);
        reason(0, TURN, 1, 0, broken, all(COUNT_0), broken);
    }

    @Sentence(promise = 13, value = "turn 9, it has an EXIT with a code, and another EXIT with another code")
    private static void turnsOneCode() {
        int[][] pairs = {{0, 1}, {0, 100}, {99, 100}, {100, 0}, {4, 5}, {1, 0}};
        for (int[] pair : pairs) {
            int[] first = {EQUAL, 1, EXIT, pair[0]};
            int[] second = {EQUAL, 2, EXIT, pair[1]};
            reason(9, TURN, 0, 0, all(joined(first, second)));
            reason(9, TURN, 0, 0, all(joined(first, COUNT_0, COUNT_0, COUNT_0, COUNT_0, second)));
            reason(9, TURN, 0, 0, all(joined(first, first, second)));
            reason(9, TURN, 0, 0, all(joined(first, second, second)));
            reason(9, TURN, 0, 0, all(joined(first, second, first)));
            reason(0, TURN, 0, 0, all(first));
            reason(0, TURN, 0, 0, all(joined(first, first)));
            reason(0, TURN, 0, 0, all(joined(second, COUNT_0, second, COUNT_1, second)));
            reason(0, TURN, 0, 0, all(first), all(second));
        }
    }

    @Sentence(promise = 13, value = "turn 10, it has SET or MARK: at any step")
    private static void turnsSums() {
        for (int at = 0; at < 6; at++) {
            for (int v = 0; v <= 3; v++) {
                reason(10, TURN, 0, 0, all(joined(repeated(at, COUNT_0), new int[] {LESS, 0, SET, v}, repeated(5 - at, COUNT_0))));
                reason(10, TURN, 0, 0, all(joined(repeated(at, COUNT_0), new int[] {LESS, 0, MARK, v}, repeated(5 - at, COUNT_0))));
                reason(0, TURN, 0, 0, all(joined(repeated(at, COUNT_0), new int[] {LESS, 0, ADD, v}, repeated(5 - at, COUNT_0))));
                reason(0, TURN, 0, 0, all(joined(repeated(at, COUNT_0), new int[] {LESS, 0, COUNT, v}, repeated(5 - at, COUNT_0))));
            }
        }
        reason(0, TURN, 1, 0, all(ALWAYS, 0, SET, 0), all(COUNT_0), all(ALWAYS, 0, MARK, 0));
    }

    @Sentence(promise = 13, value = "turn 11, a step looks with a variable that a step of the loop writes")
    private static void turnsWhatLooksWithOthers() {
        for (int v = 0; v <= 3; v++) {
            for (int other = 0; other <= 3; other++) {
                int due = v == other ? 11 : 0;
                for (int look = EQUAL; look <= GREATER; look++) {
                    reason(due, TURN, 0, 0, all(look, 1000 + v, COUNT, other));
                    reason(due, TURN, 0, 0, all(look, 1000 + v, EXIT, 3, ALWAYS, 0, ADD, other));
                    reason(due, TURN, 0, 0, all(ALWAYS, 0, ADD, other, look, 1000 + v, EXIT, 3));
                }
                reason(0, TURN, 0, 0, all(ALWAYS, 1000 + v, COUNT, other));
                reason(0, TURN, 0, 0, all(EQUAL, v, COUNT, other));
            }
            reason(0, TURN, 1, 0, all(ALWAYS, 0, COUNT, v), all(EQUAL, 1000 + v, EXIT, 1), all(ALWAYS, 0, COUNT, v));
        }
    }

    @Sentence(promise = 13, value = "turn: the first reason in the order in which they are told")
    private static void turnTellsReasonsInOrder() {
        int[] breaks = {EQUAL, 1, BREAK, 0};
        int[] codes = {EQUAL, 1, EXIT, 1, EQUAL, 2, EXIT, 2};
        int[] sets = {ALWAYS, 0, SET, 0};
        int[] marks = {ALWAYS, 0, MARK, 0};
        int[] looks = {EQUAL, 1000, COUNT, 0};
        reason(2, TURN, 0, 0, all(joined(codes, breaks)));
        reason(2, TURN, 0, 0, all(joined(sets, breaks)));
        reason(2, TURN, 0, 0, all(joined(marks, breaks)));
        reason(2, TURN, 0, 0, all(joined(looks, breaks)));
        reason(9, TURN, 0, 0, all(joined(sets, codes)));
        reason(9, TURN, 0, 0, all(joined(marks, codes)));
        reason(9, TURN, 0, 0, all(joined(looks, codes)));
        reason(10, TURN, 0, 0, all(joined(looks, sets)));
        reason(10, TURN, 0, 0, all(joined(looks, marks)));
        reason(11, TURN, 0, 0, all(looks));
    }

    @Sentence(promise = 14, value = "turn of the loop k: its direction becomes the other one")
    private static void makesTurns() {
        int[][] eight = filledTo(8, loop(2, 3, DOWN, joined(COUNT_0, new int[] {EQUAL, 1002, EXIT, 100})));
        eight[7] = loop(5, 0, UP, COUNT_1);
        Desk desk = new Desk();
        desk.program(eight);
        desk.answers(1, j -> j.change(0, TURN, 0, 0));
        desk.answers(2, j -> j.change(0, TURN, 7, 0));
        desk.answers(3, j -> j.change(1, TURN, 0, 0));
        desk.holds(0, eight);
        desk.holds(3, eight);
        desk.holds(1, loop(2, 3, UP, joined(COUNT_0, new int[] {EQUAL, 1002, EXIT, 100})),
                all(), all(), all(), all(), all(), all(), eight[7]);
        desk.holds(2, eight[0], all(), all(), all(), all(), all(), all(), loop(5, 0, DOWN, COUNT_1));
    }

    @Sentence(promise = 14, value = "turn of a loop without steps")
    private static void makesTurnsOfNothing() {
        Desk desk = new Desk();
        desk.program(all());
        desk.answers(1, j -> j.change(0, TURN, 0, 0));
        desk.holds(1, loop(0, 0, DOWN));
    }

    // ---- swap

    @Sentence(promise = 13, value = "swap 3, both have an EXIT")
    private static void swapsOneExit() {
        int[] exits = {EQUAL, 1, EXIT, 0};
        reason(3, SWAP, 0, 0, all(exits), all(exits));
        reason(3, SWAP, 0, 0, all(joined(COUNT_0, exits)), loop(1, 2, DOWN, ALWAYS, 0, EXIT, 100));
        reason(0, SWAP, 0, 0, all(exits), all(COUNT_0));
        reason(0, SWAP, 0, 0, all(COUNT_0), all(exits));
        reason(0, SWAP, 1, 0, all(exits), all(COUNT_0), all(exits));
    }

    @Sentence(promise = 13, value = "swap 4, their steps are not apart")
    private static void swapsWhatIsApart() {
        for (int v = 0; v <= 3; v++) {
            for (int other = 0; other <= 3; other++) {
                int due = v == other ? 4 : 0;
                reason(due, SWAP, 0, 0, all(ALWAYS, 0, COUNT, v), loop(1, 1, DOWN, ALWAYS, 0, SET, other));
                reason(due, SWAP, 0, 0, all(ALWAYS, 0, MARK, v), all(OTHER, 1000 + other, BREAK, 0));
                reason(due, SWAP, 0, 0, all(OTHER, 1000 + other, BREAK, 0), all(ALWAYS, 0, ADD, v));
                reason(0, SWAP, 0, 0, all(ALWAYS, 1000 + other, BREAK, 0), all(ALWAYS, 0, ADD, v));
            }
        }
    }

    @Sentence(promise = 13, value = "swap: the first reason is told, and no others stand against it")
    private static void swapTellsReasonsInOrder() {
        int[] exits = {EQUAL, 1, EXIT, 1};
        reason(3, SWAP, 0, 0, all(joined(COUNT_0, exits)), all(joined(COUNT_0, exits)));
        reason(0, SWAP, 0, 0, loop(0, 5, DOWN, ALWAYS, 0, BREAK, 0), loop(3, 0, UP, ALWAYS, 0, BREAK, 0));
        reason(0, SWAP, 0, 0, all(repeated(6, COUNT_0)), all(repeated(6, COUNT_1)));
        reason(0, SWAP, 6, 0, filledTo(8));
    }

    @Sentence(promise = 14, value = "swap of the loops k and k + 1: at both ends of 8 loops, of 6 steps and of none")
    private static void makesSwaps() {
        int[] full = loop(1, 2, DOWN, joined(repeated(5, COUNT_0), new int[] {GREATER, 1003, EXIT, 9}));
        int[] other = loop(3, 4, UP, COUNT_1);
        int[][] eight = {full, all(), other, all(), all(), all(), other, full};
        Desk desk = new Desk();
        desk.program(eight);
        desk.answers(1, j -> j.change(0, SWAP, 0, 0));
        desk.answers(2, j -> j.change(0, SWAP, 6, 0));
        desk.holds(1, all(), full, other, all(), all(), all(), other, full);
        desk.holds(2, full, all(), other, all(), all(), all(), full, other);
        desk.holds(0, eight);
    }

    // ---- strip

    @Sentence(promise = 13, value = "strip: No reasons (also for a program without loops)")
    private static void stripsAlways() {
        reason(0, STRIP, 0, 0);
        for (int count = 1; count <= 8; count++) {
            reason(0, STRIP, 0, 0, filledTo(count));
        }
        reason(0, STRIP, 0, 0, all(ALWAYS, 0, BREAK, 0, ALWAYS, 0, EXIT, 1), loop(5, 5, DOWN, ALWAYS, 0, SET, 0));
    }

    private static void strips(int[][] old, int[]... due) {
        Desk desk = new Desk();
        desk.program(old);
        desk.answers(1, j -> j.change(0, STRIP, 0, 0));
        desk.holds(1, due);
        desk.holds(0, old);
    }

    @Sentence(promise = 14, value = "strip: all loops without steps are left out")
    private static void stripsEmptyLoops() {
        int[] one = loop(1, 2, DOWN, COUNT_0);
        int[] six = loop(5, 4, UP, repeated(6, COUNT_1));
        strips(new int[][] {});
        strips(filledTo(1));
        strips(filledTo(8));
        strips(filledTo(8, one), one);
        strips(new int[][] {all(), all(), all(), all(), all(), all(), all(), six}, six);
        strips(new int[][] {all(), one, all(), all(), six, one, all(), six}, one, six, one, six);
        strips(new int[][] {one, six, one, six, one, six, one, one}, one, six, one, six, one, six, one, one);
    }

    @Sentence(promise = 14, value = "strip: all steps behind an EXIT or BREAK whose look is of the sort 0 are left out")
    private static void stripsStepsNeverDone() {
        for (int deed : new int[] {BREAK, EXIT}) {
            for (int with : new int[] {0, 100, 1003}) {
                for (int at = 0; at < 6; at++) {
                    int[] kept = joined(repeated(at, COUNT_0), new int[] {ALWAYS, with, deed, 0});
                    int[] old = joined(kept, repeated(5 - at, COUNT_1));
                    strips(new int[][] {loop(1, 2, UP, old), all(COUNT_1)}, loop(1, 2, UP, kept), all(COUNT_1));
                }
            }
        }
    }

    @Sentence(promise = 14, value = "strip: a look of another sort, another deed leave no step out")
    private static void stripsNothingElse() {
        for (int look = EQUAL; look <= GREATER; look++) {
            int[] loop = all(look, 0, EXIT, 1, look, 1000, BREAK, 0, look, 0, COUNT, 0);
            strips(new int[][] {loop}, loop);
        }
        int[] always = all(ALWAYS, 0, SET, 0, ALWAYS, 0, MARK, 1, ALWAYS, 0, COUNT, 2, ALWAYS, 0, ADD, 3, LESS, 0, COUNT, 0);
        strips(new int[][] {always}, always);
    }

    @Sentence(promise = 14, value = "strip: behind the first of several that are always done")
    private static void stripsBehindTheFirst() {
        int[] first = {EQUAL, 0, EXIT, 7, ALWAYS, 0, BREAK, 0};
        strips(new int[][] {all(joined(first, new int[] {ALWAYS, 0, EXIT, 1}, COUNT_0, new int[] {ALWAYS, 0, BREAK, 0})), all()},
                all(first));
        strips(new int[][] {all(ALWAYS, 0, EXIT, 1), all(COUNT_0)}, all(ALWAYS, 0, EXIT, 1), all(COUNT_0));
    }

    // ---- promise 15

    @Sentence(promise = 15, value = "Throws IndexOutOfBoundsException if there is no such program")
    private static void joinAllTakesPrograms() {
        takesProgramsThatAre((j, program) -> j.joinAll(program));
    }

    private static void joinsAll(int due, int[][] old, int[]... left) {
        Desk desk = new Desk();
        desk.program(filledTo(2));
        desk.program(old);
        desk.program(filledTo(2));
        desk.answers(due, j -> j.joinAll(1));
        desk.holds(1, left);
        desk.answersAlone(0, j -> j.joinAll(1));
        desk.holds(0, filledTo(2));
        desk.holds(2, filledTo(2));
        desk.answers(3, LoopJoiner::programs);
    }

    @Sentence(promise = 15, value = "Returns how many joins were made: of no loop, of one, of 8 loops")
    private static void joinsAllCounts() {
        joinsAll(0, new int[][] {});
        joinsAll(0, new int[][] {loop(1, 2, DOWN, COUNT_0)}, loop(1, 2, DOWN, COUNT_0));
        for (int count = 1; count <= 8; count++) {
            joinsAll(count - 1, filledTo(count), all());
        }
    }

    @Sentence(promise = 15, value = "as long as there is a loop k for which join may be made: none where each pair has a reason")
    private static void joinsAllButWhatHasReasons() {
        int[] breaks = all(ALWAYS, 0, BREAK, 0);
        int[] exits = all(EQUAL, 1, EXIT, 3);
        int[] five = all(repeated(5, COUNT_0));
        int[] two = all(repeated(2, COUNT_1));
        joinsAll(0, new int[][] {all(), loop(1, 0, UP)}, all(), loop(1, 0, UP));
        joinsAll(0, new int[][] {all(), loop(0, 1, UP)}, all(), loop(0, 1, UP));
        joinsAll(0, new int[][] {all(), loop(0, 0, DOWN)}, all(), loop(0, 0, DOWN));
        joinsAll(0, new int[][] {all(), breaks, all()}, all(), breaks, all());
        joinsAll(0, new int[][] {exits, exits}, exits, exits);
        joinsAll(0, new int[][] {all(COUNT_0), all(COUNT_0)}, all(COUNT_0), all(COUNT_0));
        joinsAll(0, new int[][] {five, two}, five, two);
        joinsAll(0, new int[][] {two, five}, two, five);
    }

    @Sentence(promise = 15, value = "Joins all it can: to 6 steps and no more")
    private static void joinsAllToSixSteps() {
        int[] twice0 = repeated(2, COUNT_0);
        int[] twice1 = repeated(2, COUNT_1);
        int[] twice2 = repeated(2, ALWAYS, 0, COUNT, 2);
        int[] once3 = {ALWAYS, 0, COUNT, 3};
        joinsAll(2, new int[][] {all(twice0), all(twice1), all(twice2)}, all(joined(twice0, twice1, twice2)));
        joinsAll(2, new int[][] {all(twice0), all(twice1), all(twice2), all(once3)},
                all(joined(twice0, twice1, twice2)), all(once3));
        joinsAll(3, new int[][] {all(twice0), all(twice1), all(twice2), all(), all(once3)},
                all(joined(twice0, twice1, twice2)), all(once3));
    }

    @Sentence(promise = 15, value = "it is made for the least one")
    private static void joinsAllFromTheLeast() {
        int[] four1 = repeated(4, ALWAYS, 0, ADD, 1);
        int[] two0 = repeated(2, COUNT_0);
        int[] two2 = repeated(2, ALWAYS, 0, COUNT, 2);
        joinsAll(1, new int[][] {all(two0), all(four1), all(two2)}, all(joined(two0, four1)), all(two2));
        int[] exits = {EQUAL, 1, EXIT, 3};
        joinsAll(1, new int[][] {all(exits), all(COUNT_0), all(exits)}, all(joined(exits, COUNT_0)), all(exits));
        joinsAll(2, new int[][] {loop(1, 0, UP), all(COUNT_0), all(COUNT_1), loop(1, 0, UP), loop(1, 0, UP)},
                loop(1, 0, UP), all(joined(COUNT_0, COUNT_1)), loop(1, 0, UP));
    }

    @Sentence(promise = 15, value = "at both ends of 8 loops")
    private static void joinsAllAtTheEnds() {
        int[] other = loop(0, 0, DOWN, COUNT_0);
        joinsAll(2, new int[][] {all(COUNT_0), all(COUNT_1), other, all(COUNT_0), other, all(COUNT_0), all(COUNT_1), other},
                all(joined(COUNT_0, COUNT_1)), other, all(COUNT_0), other, all(joined(COUNT_0, COUNT_1)), other);
        joinsAll(2, new int[][] {other, all(), other, all(), other, all(), all(COUNT_0), all(COUNT_1)},
                other, all(), other, all(), other, all(joined(COUNT_0, COUNT_1)));
    }

    @Sentence(promise = 15, value = "The program itself is changed: with 10 programs, too")
    private static void joinsAllOfTenPrograms() {
        Desk desk = new Desk();
        for (int program = 0; program < 10; program++) {
            desk.program(all(COUNT_0), all(COUNT_1));
        }
        desk.answers(1, j -> j.joinAll(9));
        desk.holds(9, all(joined(COUNT_0, COUNT_1)));
        desk.answers(1, j -> j.joinAll(0));
        desk.holds(0, all(joined(COUNT_0, COUNT_1)));
        desk.holds(8, all(COUNT_0), all(COUNT_1));
        desk.answers(10, LoopJoiner::programs);
    }
}
