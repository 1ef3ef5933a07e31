/** For each promise of the document: ordinary inputs, the edges that it names, and wrong inputs. */
public final class PromisesTest {
    private static final Class<? extends RuntimeException> INDEX = IndexOutOfBoundsException.class;
    private static final Class<? extends RuntimeException> ARGUMENT = IllegalArgumentException.class;
    private static final Class<? extends RuntimeException> STATE = IllegalStateException.class;
    private static final int LEAST = Integer.MIN_VALUE;
    private static final int MOST = Integer.MAX_VALUE;

    private static final int ALWAYS = 0;
    private static final int EQUAL = 1;
    private static final int OTHER = 2;
    private static final int LESS = 3;
    private static final int GREATER = 4;
    private static final int SET = 0;
    private static final int MARK = 1;
    private static final int COUNT = 2;
    private static final int ADD = 3;
    private static final int BREAK = 4;
    private static final int EXIT = 5;
    private static final int JOIN = 0;
    private static final int DIVIDE = 1;
    private static final int PEEL = 2;
    private static final int TURN = 3;
    private static final int SWAP = 4;
    private static final int STRIP = 5;

    private static final Checks checks = new Checks();

    public static void main(String[] args) {
        newObject();
        addProgram();
        addLoop();
        addStep();
        loop();
        step();
        programsAndLoops();
        putAndEmpty();
        runRanges();
        runLooks();
        runDeeds();
        runWraps();
        ran();
        reasonInputs();
        reasonOfJoin();
        reasonOfJoinApart();
        reasonOfDivide();
        reasonOfPeel();
        reasonOfTurn();
        reasonOfSwap();
        reasonOfFullProgram();
        changeJoin();
        changeDivide();
        changePeel();
        changeTurnAndSwap();
        changeStrip();
        changeRefused();
        joinAll();
        differ();
        firstCase();
        cost();
        exits();
        casesInputs();
        digest();
        checks.end();
    }

    /** One program with the given loops, each a row of skip, stop, up and then four numbers a step. */
    private static LoopJoiner joinerOf(int[]... loops) {
        LoopJoiner joiner = new LoopJoiner();
        addProgramOf(joiner, loops);
        return joiner;
    }

    private static int addProgramOf(LoopJoiner joiner, int[]... loops) {
        int program = joiner.addProgram();
        for (int[] facts : loops) {
            int loop = joiner.addLoop(program, facts[0], facts[1], facts[2] == 1);
            for (int at = 3; at < facts.length; at += 4) {
                joiner.addStep(program, loop, facts[at], facts[at + 1], facts[at + 2], facts[at + 3]);
            }
        }
        return program;
    }

    private static void expectProgram(String name, LoopJoiner joiner, int program, int[]... loops) {
        checks.same(name + ": loops", joiner.loops(program), loops.length);
        for (int k = 0; k < loops.length && k < joiner.loops(program); k++) {
            int steps = (loops[k].length - 3) / 4;
            for (int what = 0; what < 3; what++) {
                checks.same(name + ": loop " + k + " what " + what, joiner.loop(program, k, what), loops[k][what]);
            }
            checks.same(name + ": steps of loop " + k, joiner.loop(program, k, 3), steps);
            for (int s = 0; s < steps && s < joiner.loop(program, k, 3); s++) {
                for (int what = 0; what < 4; what++) {
                    checks.same(name + ": loop " + k + " step " + s + " what " + what,
                            joiner.step(program, k, s, what), loops[k][3 + 4 * s + what]);
                }
            }
        }
    }

    private static void putAll(LoopJoiner joiner, long... numbers) {
        joiner.empty();
        for (long number : numbers) {
            joiner.put(number);
        }
    }

    /** What a run of the program 0 answers, its four variables and its cost. */
    private static void expectRun(String name, LoopJoiner joiner, long... due) {
        checks.same(name + ": run", joiner.run(0), due[0]);
        for (int what = 0; what < 5; what++) {
            checks.same(name + ": ran " + what, joiner.ran(what), due[what + 1]);
        }
    }

    private static void newObject() {
        LoopJoiner joiner = new LoopJoiner();
        checks.same("new: programs", joiner.programs(), 0);
        for (int what = 0; what < 5; what++) {
            checks.same("new: ran " + what, joiner.ran(what), 0);
        }
        checks.same("new: empty", joiner.empty(), 0);
        checks.refused(joiner, "new: loops", INDEX, () -> joiner.loops(0));
        LoopJoiner busy = joinerOf(new int[] {0, 0, 1, ALWAYS, 0, COUNT, 0});
        busy.put(1);
        busy.run(0);
        checks.same("two objects share nothing: programs", new LoopJoiner().programs(), 0);
        checks.same("two objects share nothing: empty", new LoopJoiner().empty(), 0);
        checks.same("two objects share nothing: ran", new LoopJoiner().ran(4), 0);
    }

    private static void addProgram() {
        LoopJoiner joiner = new LoopJoiner();
        for (int number = 0; number < 10; number++) {
            checks.same("addProgram", joiner.addProgram(), number);
            checks.same("addProgram: without loops", joiner.loops(number), 0);
        }
        checks.refused(joiner, "addProgram: the eleventh", STATE, joiner::addProgram);
        checks.same("addProgram: programs", joiner.programs(), 10);
    }

    private static void addLoop() {
        LoopJoiner joiner = new LoopJoiner();
        checks.refused(joiner, "addLoop: no program", INDEX, () -> joiner.addLoop(0, 0, 0, true));
        joiner.addProgram();
        joiner.addProgram();
        for (int program : new int[] {-1, 2, 9, 10, LEAST, MOST}) {
            checks.refused(joiner, "addLoop: no program " + program, INDEX,
                    () -> joiner.addLoop(program, 6, 6, true));
        }
        for (int bad : new int[] {-1, 6, LEAST, MOST}) {
            checks.refused(joiner, "addLoop: skip " + bad, ARGUMENT, () -> joiner.addLoop(0, bad, 0, true));
            checks.refused(joiner, "addLoop: stop " + bad, ARGUMENT, () -> joiner.addLoop(0, 0, bad, true));
        }
        for (int number = 0; number < 8; number++) {
            checks.same("addLoop", joiner.addLoop(1, number % 6, 5 - number % 6, number % 2 == 0), number);
        }
        for (int number = 0; number < 8; number++) {
            checks.same("addLoop: skip", joiner.loop(1, number, 0), number % 6);
            checks.same("addLoop: stop", joiner.loop(1, number, 1), 5 - number % 6);
            checks.same("addLoop: direction", joiner.loop(1, number, 2), number % 2 == 0 ? 1 : 0);
            checks.same("addLoop: steps", joiner.loop(1, number, 3), 0);
        }
        checks.refused(joiner, "addLoop: the ninth", STATE, () -> joiner.addLoop(1, 0, 0, true));
        checks.refused(joiner, "addLoop: the ninth with a wrong skip", ARGUMENT, () -> joiner.addLoop(1, 6, 0, true));
        checks.same("addLoop: the other program", joiner.loops(0), 0);
    }

    private static void addStep() {
        LoopJoiner joiner = joinerOf(new int[] {0, 0, 1}, new int[] {0, 0, 1});
        checks.refused(joiner, "addStep: no program", INDEX, () -> joiner.addStep(1, 0, 9, 0, 0, 0));
        checks.refused(joiner, "addStep: no program -1", INDEX, () -> joiner.addStep(-1, 0, 0, 0, 0, 0));
        for (int loop : new int[] {-1, 2, 7, 8, LEAST, MOST}) {
            checks.refused(joiner, "addStep: no loop " + loop, INDEX, () -> joiner.addStep(0, loop, 9, 0, 0, 0));
        }
        for (int look : new int[] {-1, 5, LEAST, MOST}) {
            checks.refused(joiner, "addStep: look " + look, ARGUMENT, () -> joiner.addStep(0, 0, look, 0, 0, 0));
        }
        for (int with : new int[] {-101, 101, 999, 1004, LEAST, MOST}) {
            checks.refused(joiner, "addStep: with " + with, ARGUMENT, () -> joiner.addStep(0, 0, 0, with, 0, 0));
        }
        for (int deed : new int[] {-1, 6, LEAST, MOST}) {
            checks.refused(joiner, "addStep: deed " + deed, ARGUMENT, () -> joiner.addStep(0, 0, 0, 0, deed, 0));
        }
        for (int deed = SET; deed <= ADD; deed++) {
            int each = deed;
            checks.refused(joiner, "addStep: of -1", ARGUMENT, () -> joiner.addStep(0, 0, 0, 0, each, -1));
            checks.refused(joiner, "addStep: of 4", ARGUMENT, () -> joiner.addStep(0, 0, 0, 0, each, 4));
        }
        checks.refused(joiner, "addStep: BREAK 1", ARGUMENT, () -> joiner.addStep(0, 0, 0, 0, BREAK, 1));
        checks.refused(joiner, "addStep: BREAK -1", ARGUMENT, () -> joiner.addStep(0, 0, 0, 0, BREAK, -1));
        checks.refused(joiner, "addStep: EXIT -1", ARGUMENT, () -> joiner.addStep(0, 0, 0, 0, EXIT, -1));
        checks.refused(joiner, "addStep: EXIT 101", ARGUMENT, () -> joiner.addStep(0, 0, 0, 0, EXIT, 101));
        int[][] good = {{ALWAYS, -100, SET, 3}, {EQUAL, 100, MARK, 0}, {OTHER, 1000, COUNT, 3},
            {LESS, 1003, ADD, 3}, {GREATER, 0, BREAK, 0}, {GREATER, 1001, EXIT, 100}};
        for (int s = 0; s < good.length; s++) {
            checks.same("addStep", joiner.addStep(0, 1, good[s][0], good[s][1], good[s][2], good[s][3]), s);
        }
        for (int s = 0; s < good.length; s++) {
            for (int what = 0; what < 4; what++) {
                checks.same("addStep: step " + s + " what " + what, joiner.step(0, 1, s, what), good[s][what]);
            }
        }
        checks.refused(joiner, "addStep: the seventh", STATE, () -> joiner.addStep(0, 1, 0, 0, EXIT, 0));
        checks.refused(joiner, "addStep: a wrong seventh", ARGUMENT, () -> joiner.addStep(0, 1, 5, 0, 0, 0));
        checks.same("addStep: the other loop", joiner.loop(0, 0, 3), 0);
        checks.same("addStep: EXIT 0", joiner.addStep(0, 0, 0, 0, EXIT, 0), 0);
    }

    private static void loop() {
        LoopJoiner joiner = joinerOf(new int[] {1, 2, 1}, new int[] {5, 0, 0, ALWAYS, 0, SET, 1, LESS, 2, ADD, 3});
        expectProgram("loop", joiner, 0, new int[] {1, 2, 1},
                new int[] {5, 0, 0, ALWAYS, 0, SET, 1, LESS, 2, ADD, 3});
        for (int bad : new int[] {-1, 4, LEAST, MOST}) {
            checks.refused(joiner, "loop: what " + bad, INDEX, () -> joiner.loop(0, 0, bad));
            checks.refused(joiner, "loop: loop " + bad, INDEX, () -> joiner.loop(0, bad, 0));
            checks.refused(joiner, "loop: program " + bad, INDEX, () -> joiner.loop(bad, 0, 0));
        }
        checks.refused(joiner, "loop: the loop behind the last", INDEX, () -> joiner.loop(0, 2, 0));
        checks.refused(joiner, "loop: the program behind the last", INDEX, () -> joiner.loop(1, 0, 0));
    }

    private static void step() {
        LoopJoiner joiner = joinerOf(new int[] {0, 0, 1, LESS, 1002, EXIT, 99, GREATER, -7, MARK, 2}, new int[] {0, 0, 1});
        checks.same("step: look", joiner.step(0, 0, 1, 0), GREATER);
        checks.same("step: with", joiner.step(0, 0, 1, 1), -7);
        checks.same("step: variable", joiner.step(0, 0, 0, 1), 1002);
        checks.same("step: deed", joiner.step(0, 0, 1, 2), MARK);
        checks.same("step: code", joiner.step(0, 0, 0, 3), 99);
        checks.same("step: v", joiner.step(0, 0, 1, 3), 2);
        for (int bad : new int[] {-1, 4, 6, LEAST, MOST}) {
            checks.refused(joiner, "step: what " + bad, INDEX, () -> joiner.step(0, 0, 0, bad));
            checks.refused(joiner, "step: step " + bad, INDEX, () -> joiner.step(0, 0, bad, 0));
            checks.refused(joiner, "step: loop " + bad, INDEX, () -> joiner.step(0, bad, 0, 0));
            checks.refused(joiner, "step: program " + bad, INDEX, () -> joiner.step(bad, 0, 0, 0));
        }
        checks.refused(joiner, "step: behind the last", INDEX, () -> joiner.step(0, 0, 2, 0));
        checks.refused(joiner, "step: of a loop without", INDEX, () -> joiner.step(0, 1, 0, 0));
    }

    private static void programsAndLoops() {
        LoopJoiner joiner = joinerOf(new int[] {0, 0, 1}, new int[] {0, 0, 1});
        joiner.addProgram();
        checks.same("programs", joiner.programs(), 2);
        checks.same("loops of two", joiner.loops(0), 2);
        checks.same("loops of none", joiner.loops(1), 0);
        for (int bad : new int[] {-1, 2, 10, LEAST, MOST}) {
            checks.refused(joiner, "loops: program " + bad, INDEX, () -> joiner.loops(bad));
        }
    }

    private static void putAndEmpty() {
        LoopJoiner joiner = joinerOf(new int[] {0, 0, 1, ALWAYS, 0, ADD, 0, ALWAYS, 0, SET, 1});
        for (int number = 1; number <= 40; number++) {
            checks.same("put", joiner.put(number), number);
        }
        checks.refused(joiner, "put: the 41st", STATE, () -> joiner.put(1));
        expectRun("put: the row holds all", joiner, -1, 820, 40, 0, 0, 80);
        checks.same("empty: a full row", joiner.empty(), 40);
        checks.same("empty: again", joiner.empty(), 0);
        expectRun("empty: nothing is left", joiner, -1, 0, 0, 0, 0, 0);
        checks.same("put: after empty", joiner.put(Long.MIN_VALUE), 1);
        checks.same("put: the second", joiner.put(Long.MAX_VALUE), 2);
        expectRun("put: 64 bits", joiner, -1, -1, Long.MAX_VALUE, 0, 0, 4);
    }

    private static void runRanges() {
        for (int up = 0; up <= 1; up++) {
            LoopJoiner joiner = joinerOf(new int[] {1, 2, up, EQUAL, 1000, COUNT, 1, ALWAYS, 0, COUNT, 3,
                ALWAYS, 0, MARK, 2, ALWAYS, 0, SET, 0});
            putAll(joiner, 10, 20, 30, 40, 50, 60);
            expectRun("run: skip and stop", joiner, -1, up == 1 ? 40 : 20, 0, up == 1 ? 3 : 1, 3, 12);
            putAll(joiner, 10, 20, 30, 40);
            expectRun("run: one place", joiner, -1, 20, 0, 1, 1, 4);
            putAll(joiner, 10, 20, 30);
            expectRun("run: no place", joiner, -1, 0, 0, 0, 0, 0);
            putAll(joiner);
            expectRun("run: no row", joiner, -1, 0, 0, 0, 0, 0);
            LoopJoiner wide = joinerOf(new int[] {5, 5, up, ALWAYS, 0, MARK, 0});
            putAll(wide, 0, 1, 2, 3, 4, 5, 6, 7, 8, 9);
            expectRun("run: skip 5, stop 5, 10 numbers", wide, -1, 0, 0, 0, 0, 0);
            wide.put(10);
            expectRun("run: skip 5, stop 5, 11 numbers", wide, -1, 5, 0, 0, 0, 1);
        }
        LoopJoiner none = joinerOf();
        none.put(1);
        expectRun("run: without loops", none, -1, 0, 0, 0, 0, 0);
        for (int bad : new int[] {-1, 1, 10, LEAST, MOST}) {
            checks.refused(none, "run: program " + bad, INDEX, () -> none.run(bad));
        }
    }

    private static void runLooks() {
        long[][] due = {{5, 15}, {1, 3}, {4, 12}, {2, 3}, {2, 9}};
        for (int look = ALWAYS; look <= GREATER; look++) {
            LoopJoiner joiner = joinerOf(new int[] {0, 0, 1, look, 3, COUNT, 0, look, 3, ADD, 1});
            putAll(joiner, 1, 2, 3, 4, 5);
            expectRun("run: look " + look, joiner, -1, due[look][0], due[look][1], 0, 0, 10);
        }
        LoopJoiner negative = joinerOf(new int[] {0, 0, 1, LESS, -100, COUNT, 0, EQUAL, -100, COUNT, 1, GREATER, -100, COUNT, 2});
        putAll(negative, -101, -100, -100, -99, 0, 7);
        expectRun("run: a negative constant", negative, -1, 1, 2, 3, 0, 18);
        LoopJoiner variable = joinerOf(new int[] {0, 0, 1, GREATER, 1003, COUNT, 0, ALWAYS, 0, SET, 3});
        putAll(variable, -5, -4, -4, 9, 8, 10);
        expectRun("run: looks with a variable, of this moment", variable, -1, 3, 0, 0, 10, 12);
        LoopJoiner wide = joinerOf(new int[] {0, 0, 1, LESS, 1001, COUNT, 0, ALWAYS, 0, SET, 1});
        putAll(wide, Long.MAX_VALUE, Long.MIN_VALUE, 1L << 40, 1L);
        expectRun("run: compares 64 bits", wide, -1, 2, 1, 0, 0, 8);
    }

    private static void runDeeds() {
        LoopJoiner broken = joinerOf(new int[] {0, 0, 1, ALWAYS, 0, COUNT, 0, EQUAL, 2, BREAK, 0, ALWAYS, 0, COUNT, 1},
                new int[] {0, 0, 1, ALWAYS, 0, COUNT, 2});
        putAll(broken, 1, 2, 3);
        expectRun("run: BREAK leaves its loop alone", broken, -1, 2, 1, 3, 0, 8);
        LoopJoiner left = joinerOf(new int[] {0, 0, 1, ALWAYS, 0, COUNT, 0, EQUAL, 2, EXIT, 100, ALWAYS, 0, COUNT, 1},
                new int[] {0, 0, 1, ALWAYS, 0, COUNT, 2});
        putAll(left, 1, 2, 3);
        expectRun("run: EXIT leaves all", left, 100, 2, 1, 0, 0, 5);
        putAll(left, 1, 3);
        expectRun("run: EXIT is not met", left, -1, 2, 2, 2, 0, 8);
        LoopJoiner zero = joinerOf(new int[] {0, 0, 0, GREATER, 0, EXIT, 0});
        putAll(zero, 1);
        expectRun("run: EXIT with the code 0", zero, 0, 0, 0, 0, 0, 1);
        LoopJoiner all = joinerOf(new int[] {0, 0, 0, ALWAYS, 0, SET, 0, ALWAYS, 0, MARK, 1, ALWAYS, 0, COUNT, 2, ALWAYS, 0, ADD, 3});
        putAll(all, 7, 8, 9);
        expectRun("run: SET, MARK, COUNT, ADD", all, -1, 7, 0, 3, 24, 12);
        expectRun("run: each run has variables of its own", all, -1, 7, 0, 3, 24, 12);
        LoopJoiner kept = joinerOf(new int[] {0, 0, 1, ALWAYS, 0, COUNT, 0}, new int[] {0, 0, 0, EQUAL, 1000, COUNT, 0});
        putAll(kept, 1, 2, 3);
        expectRun("run: the variables pass from loop to loop", kept, -1, 4, 0, 0, 0, 6);
    }

    private static void runWraps() {
        LoopJoiner joiner = joinerOf(new int[] {0, 0, 1, ALWAYS, 0, ADD, 0, ALWAYS, 0, SET, 1, ALWAYS, 0, COUNT, 1});
        putAll(joiner, Long.MIN_VALUE, Long.MIN_VALUE, -1, Long.MAX_VALUE);
        expectRun("run: wraps around", joiner, -1, Long.MAX_VALUE - 1, Long.MIN_VALUE, 0, 0, 12);
    }

    private static void ran() {
        LoopJoiner joiner = joinerOf(new int[] {0, 0, 1, ALWAYS, 0, ADD, 0, GREATER, 5, EXIT, 3});
        addProgramOf(joiner, new int[] {0, 0, 1, ALWAYS, 0, COUNT, 3});
        putAll(joiner, 4, 6, 7);
        expectRun("ran: left", joiner, 3, 10, 0, 0, 0, 4);
        joiner.differ(0, 1, 2, 2);
        joiner.firstCase(0, 1, 2, 2);
        joiner.cost(1, 3, 2, true);
        joiner.exits(1, 3, 2);
        joiner.empty();
        checks.refused(joiner, "ran: a refused run does not count", INDEX, () -> joiner.run(2));
        checks.same("ran: proofs do not count: variable", joiner.ran(0), 10);
        checks.same("ran: proofs do not count: variable 3", joiner.ran(3), 0);
        checks.same("ran: proofs do not count: cost", joiner.ran(4), 4);
        for (int bad : new int[] {-1, 5, LEAST, MOST}) {
            checks.refused(joiner, "ran: what " + bad, INDEX, () -> joiner.ran(bad));
        }
    }

    private static void expectReason(String name, int due, int change, int loop, int with, int[]... loops) {
        checks.same(name, joinerOf(loops).reason(0, change, loop, with), due);
    }

    private static void reasonInputs() {
        LoopJoiner joiner = joinerOf(new int[] {0, 0, 1, ALWAYS, 0, COUNT, 0, ALWAYS, 0, COUNT, 1, ALWAYS, 0, COUNT, 2},
                new int[] {0, 0, 1, ALWAYS, 0, COUNT, 3});
        joiner.addProgram();
        for (int bad : new int[] {-1, 2, LEAST, MOST}) {
            expectRefusedChange(joiner, INDEX, bad, JOIN, 0, 9);
            for (int change = JOIN; change <= STRIP; change++) {
                expectRefusedChange(joiner, INDEX, 0, change, bad, 99);
            }
        }
        for (int bad : new int[] {-1, 6, LEAST, MOST}) {
            expectRefusedChange(joiner, INDEX, 0, bad, 0, 0);
        }
        for (int change = JOIN; change <= SWAP; change++) {
            expectRefusedChange(joiner, INDEX, 1, change, 0, change == DIVIDE || change == PEEL ? 1 : 0);
        }
        expectRefusedChange(joiner, INDEX, 0, JOIN, 1, 0);
        expectRefusedChange(joiner, INDEX, 0, SWAP, 1, 0);
        expectRefusedChange(joiner, INDEX, 0, STRIP, 1, 0);
        for (int bad : new int[] {-1, 1, LEAST, MOST}) {
            expectRefusedChange(joiner, ARGUMENT, 0, JOIN, 0, bad);
            expectRefusedChange(joiner, ARGUMENT, 0, TURN, 0, bad);
            expectRefusedChange(joiner, ARGUMENT, 0, SWAP, 0, bad);
            expectRefusedChange(joiner, ARGUMENT, 0, STRIP, 0, bad);
            expectRefusedChange(joiner, ARGUMENT, 0, DIVIDE, 1, bad);
        }
        for (int bad : new int[] {-1, 0, 3, LEAST, MOST}) {
            expectRefusedChange(joiner, ARGUMENT, 0, DIVIDE, 0, bad);
        }
        for (int bad : new int[] {-1, 0, 11, LEAST, MOST}) {
            expectRefusedChange(joiner, ARGUMENT, 0, PEEL, 0, bad);
        }
        checks.same("reason: strip without loops", joiner.reason(1, STRIP, 0, 0), 0);
        checks.same("reason: strip", joiner.reason(0, STRIP, 0, 0), 0);
        checks.same("reason: turn of the last", joiner.reason(0, TURN, 1, 0), 0);
        checks.same("reason: divide at the last step", joiner.reason(0, DIVIDE, 0, 2), 0);
    }

    private static void expectRefusedChange(LoopJoiner joiner, Class<? extends RuntimeException> due,
            int program, int change, int loop, int with) {
        String call = "(" + program + ", " + change + ", " + loop + ", " + with + ")";
        checks.refused(joiner, "reason" + call, due, () -> joiner.reason(program, change, loop, with));
        checks.refused(joiner, "change" + call, due, () -> joiner.change(program, change, loop, with));
    }

    private static void reasonOfJoin() {
        int[] plain = {1, 2, 1, ALWAYS, 0, COUNT, 0};
        int[] broken = {1, 2, 1, ALWAYS, 0, COUNT, 1, EQUAL, 0, BREAK, 0};
        int[] left = {1, 2, 1, ALWAYS, 0, COUNT, 1, EQUAL, 0, EXIT, 5};
        int[] five = {1, 2, 1, ALWAYS, 0, COUNT, 1, ALWAYS, 0, COUNT, 1, ALWAYS, 0, COUNT, 1, ALWAYS, 0, COUNT, 1,
            ALWAYS, 0, COUNT, 1};
        int[] two = {1, 2, 1, ALWAYS, 0, COUNT, 2, ALWAYS, 0, COUNT, 3};
        expectReason("join: empty loops", 0, JOIN, 0, 0, new int[] {1, 2, 1}, new int[] {1, 2, 1});
        expectReason("join: other skip", 1, JOIN, 0, 0, plain, new int[] {2, 2, 1, ALWAYS, 0, BREAK, 0});
        expectReason("join: other stop", 1, JOIN, 0, 0, plain, new int[] {1, 1, 1});
        expectReason("join: other direction", 1, JOIN, 0, 0, plain, new int[] {1, 2, 0});
        expectReason("join: BREAK in the first", 2, JOIN, 0, 0, broken, plain);
        expectReason("join: BREAK in the second", 2, JOIN, 0, 0, plain, broken);
        expectReason("join: BREAK ahead of not apart", 2, JOIN, 0, 0, broken, broken);
        expectReason("join: both EXIT ahead of not apart", 3, JOIN, 0, 0, left, left);
        expectReason("join: one EXIT", 0, JOIN, 0, 0, left, plain);
        expectReason("join: the other EXIT", 0, JOIN, 0, 0, plain, left);
        expectReason("join: not apart ahead of too many", 4, JOIN, 0, 0, five, five);
        expectReason("join: 7 steps", 5, JOIN, 0, 0, five, two);
        expectReason("join: 6 steps", 0, JOIN, 0, 0, five, plain);
        expectReason("join: of later loops", 0, JOIN, 1, 0, broken, five, plain);
    }

    private static void reasonOfJoinApart() {
        for (int deed = SET; deed <= ADD; deed++) {
            for (int later = SET; later <= ADD; later++) {
                expectReason("join: both write", 4, JOIN, 0, 0,
                        new int[] {0, 0, 1, ALWAYS, 0, deed, 2}, new int[] {0, 0, 1, ALWAYS, 0, later, 2});
                expectReason("join: they write others", 0, JOIN, 0, 0,
                        new int[] {0, 0, 1, ALWAYS, 0, deed, 2}, new int[] {0, 0, 1, ALWAYS, 0, later, 3});
            }
            for (int look = EQUAL; look <= GREATER; look++) {
                int[] writes = {0, 0, 1, ALWAYS, 0, deed, 2};
                int[] looks = {0, 0, 1, look, 1002, EXIT, 2};
                expectReason("join: the second one looks", 4, JOIN, 0, 0, writes, looks);
                expectReason("join: the first one looks", 4, JOIN, 0, 0, looks, writes);
                expectReason("join: looks with another", 0, JOIN, 0, 0, writes, new int[] {0, 0, 1, look, 1001, EXIT, 2});
                expectReason("join: both look alone", 0, JOIN, 0, 0,
                        new int[] {0, 0, 1, look, 1002, COUNT, 0}, new int[] {0, 0, 1, look, 1002, COUNT, 1});
            }
            expectReason("join: a look of the sort 0 reads nothing", 0, JOIN, 0, 0,
                    new int[] {0, 0, 1, ALWAYS, 0, deed, 2}, new int[] {0, 0, 1, ALWAYS, 1002, EXIT, 2});
        }
        expectReason("join: a constant is no variable", 0, JOIN, 0, 0,
                new int[] {0, 0, 1, ALWAYS, 0, SET, 2}, new int[] {0, 0, 1, EQUAL, 2, COUNT, 1});
        expectReason("join: a code is no variable", 0, JOIN, 0, 0,
                new int[] {0, 0, 1, ALWAYS, 0, SET, 2}, new int[] {0, 0, 1, EQUAL, 0, EXIT, 2});
    }

    private static void reasonOfDivide() {
        int[] three = {0, 0, 0, ALWAYS, 0, COUNT, 0, ALWAYS, 0, COUNT, 1, LESS, 1000, SET, 2};
        expectReason("divide: the last looks with the first", 4, DIVIDE, 0, 1, three);
        expectReason("divide: and behind the second, too", 4, DIVIDE, 0, 2, three);
        expectReason("divide: it has a BREAK", 2, DIVIDE, 0, 1,
                new int[] {0, 0, 1, EQUAL, 0, EXIT, 0, EQUAL, 1, EXIT, 1, EQUAL, 0, BREAK, 0});
        expectReason("divide: it has a BREAK ahead", 2, DIVIDE, 0, 1,
                new int[] {0, 0, 1, EQUAL, 0, BREAK, 0, ALWAYS, 0, COUNT, 0});
        int[] left = {0, 0, 1, EQUAL, 0, EXIT, 1, ALWAYS, 0, COUNT, 0, EQUAL, 2, EXIT, 1, ALWAYS, 0, COUNT, 0};
        expectReason("divide: both parts EXIT, ahead of not apart", 3, DIVIDE, 0, 2, left);
        expectReason("divide: both parts EXIT", 3, DIVIDE, 0, 1, left);
        expectReason("divide: one part has both", 4, DIVIDE, 0, 3, left);
        expectReason("divide: apart", 0, DIVIDE, 0, 1, new int[] {2, 3, 0, ALWAYS, 0, COUNT, 0, EQUAL, 2, EXIT, 1});
        expectReason("divide: each part looks with its own", 0, DIVIDE, 0, 1,
                new int[] {0, 0, 1, LESS, 1000, SET, 0, LESS, 1001, SET, 1});
        expectReason("divide: of a later loop", 0, DIVIDE, 1, 1, three,
                new int[] {0, 0, 1, ALWAYS, 0, COUNT, 0, ALWAYS, 0, SET, 1});
    }

    private static void reasonOfPeel() {
        int[] broken = {2, 3, 0, ALWAYS, 0, BREAK, 0};
        expectReason("peel: down, ahead of all", 7, PEEL, 0, 1, broken);
        expectReason("peel: too few numbers, ahead of BREAK", 8, PEEL, 0, 5, new int[] {2, 3, 1, ALWAYS, 0, BREAK, 0});
        expectReason("peel: BREAK", 2, PEEL, 0, 6, new int[] {2, 3, 1, ALWAYS, 0, BREAK, 0});
        expectReason("peel: just enough numbers", 0, PEEL, 0, 6, new int[] {2, 3, 1, ALWAYS, 0, COUNT, 0});
        expectReason("peel: the stop is 5", 0, PEEL, 0, 8, new int[] {2, 3, 1});
        expectReason("peel: the stop would be 6", 8, PEEL, 0, 9, new int[] {2, 3, 1});
        expectReason("peel: the skip would be 6", 8, PEEL, 0, 8, new int[] {5, 0, 1});
        expectReason("peel: the skip is 5", 0, PEEL, 0, 10, new int[] {4, 5, 1});
        expectReason("peel: skip and stop of 10", 8, PEEL, 0, 10, new int[] {5, 5, 1});
        expectReason("peel: one number", 0, PEEL, 0, 1, new int[] {0, 0, 1});
        expectReason("peel: all may be done with EXIT and SET", 0, PEEL, 0, 3,
                new int[] {0, 0, 1, LESS, 1000, SET, 0, EQUAL, 1, EXIT, 1, EQUAL, 2, EXIT, 2});
    }

    private static void reasonOfTurn() {
        expectReason("turn: no steps", 0, TURN, 0, 0, new int[] {0, 0, 1});
        expectReason("turn: BREAK, ahead of all", 2, TURN, 0, 0,
                new int[] {0, 0, 1, EQUAL, 1, EXIT, 1, EQUAL, 2, EXIT, 2, EQUAL, 1000, SET, 0, EQUAL, 0, BREAK, 0});
        expectReason("turn: two codes, ahead of SET", 9, TURN, 0, 0,
                new int[] {0, 0, 1, EQUAL, 1000, SET, 0, EQUAL, 1, EXIT, 1, EQUAL, 2, EXIT, 0});
        expectReason("turn: the code 0 and another one", 9, TURN, 0, 0,
                new int[] {0, 0, 1, EQUAL, 1, EXIT, 0, EQUAL, 2, EXIT, 0, EQUAL, 3, EXIT, 7});
        expectReason("turn: two codes at the start", 9, TURN, 0, 0,
                new int[] {0, 0, 1, EQUAL, 1, EXIT, 4, EQUAL, 2, EXIT, 5});
        expectReason("turn: one code twice", 0, TURN, 0, 0, new int[] {0, 0, 0, EQUAL, 1, EXIT, 7, EQUAL, 2, EXIT, 7});
        expectReason("turn: SET, ahead of its looks", 10, TURN, 0, 0, new int[] {0, 0, 1, EQUAL, 1000, SET, 0});
        expectReason("turn: MARK", 10, TURN, 0, 0, new int[] {0, 0, 1, EQUAL, 3, MARK, 0});
        expectReason("turn: looks with what it writes", 11, TURN, 0, 0, new int[] {0, 0, 1, EQUAL, 1001, ADD, 1});
        expectReason("turn: looks with what a later step writes", 11, TURN, 0, 0,
                new int[] {0, 0, 1, EQUAL, 1001, EXIT, 1, ALWAYS, 0, COUNT, 1});
        expectReason("turn: looks with another", 0, TURN, 0, 0,
                new int[] {0, 0, 1, EQUAL, 1001, EXIT, 1, ALWAYS, 0, COUNT, 2, ALWAYS, 0, ADD, 2});
        expectReason("turn: the sort 0 does not look", 0, TURN, 0, 0, new int[] {0, 0, 1, ALWAYS, 1001, COUNT, 1});
    }

    private static void reasonOfSwap() {
        expectReason("swap: other ranges and BREAK may be", 0, SWAP, 0, 0,
                new int[] {0, 5, 0, ALWAYS, 0, COUNT, 0, ALWAYS, 0, BREAK, 0}, new int[] {3, 0, 1, EQUAL, 0, EXIT, 4});
        expectReason("swap: both EXIT, ahead of not apart", 3, SWAP, 0, 0,
                new int[] {0, 0, 1, ALWAYS, 0, COUNT, 0, EQUAL, 0, EXIT, 4}, new int[] {0, 0, 1, EQUAL, 1000, EXIT, 4});
        expectReason("swap: not apart", 4, SWAP, 1, 0, new int[] {0, 0, 1},
                new int[] {0, 0, 1, ALWAYS, 0, MARK, 3}, new int[] {0, 0, 1, OTHER, 1003, EXIT, 4});
        expectReason("swap: 7 steps and more may be", 0, SWAP, 0, 0,
                new int[] {0, 0, 1, ALWAYS, 0, ADD, 0, ALWAYS, 0, ADD, 0, ALWAYS, 0, ADD, 0, ALWAYS, 0, ADD, 0},
                new int[] {0, 0, 1, ALWAYS, 0, ADD, 1, ALWAYS, 0, ADD, 1, ALWAYS, 0, ADD, 1, ALWAYS, 0, ADD, 1});
    }

    private static void reasonOfFullProgram() {
        int[] apart = {0, 0, 1, ALWAYS, 0, COUNT, 0, ALWAYS, 0, COUNT, 1};
        int[] same = {0, 0, 1, ALWAYS, 0, COUNT, 0, ALWAYS, 0, COUNT, 0};
        int[] broken = {0, 0, 1, ALWAYS, 0, COUNT, 0, ALWAYS, 0, BREAK, 0};
        int[] down = {0, 0, 0, ALWAYS, 0, COUNT, 0};
        int[][] eight = {apart, same, broken, down, apart, apart, apart, apart};
        expectReason("divide: the ninth loop", 6, DIVIDE, 0, 1, eight);
        expectReason("divide: not apart, ahead of the ninth", 4, DIVIDE, 1, 1, eight);
        expectReason("peel: the ninth loop", 6, PEEL, 7, 3, eight);
        expectReason("peel: BREAK, ahead of the ninth", 2, PEEL, 2, 3, eight);
        expectReason("turn: needs no room", 0, TURN, 7, 0, eight);
        int[][] seven = {apart, same, broken, down, apart, apart, apart};
        expectReason("divide: the eighth loop", 0, DIVIDE, 6, 1, seven);
        expectReason("peel: the eighth loop", 0, PEEL, 6, 3, seven);
    }

    private static void changeJoin() {
        int[] head = {5, 5, 0, EQUAL, 1, BREAK, 0};
        int[] first = {1, 2, 0, ALWAYS, 0, COUNT, 0, EQUAL, 1003, COUNT, 1};
        int[] second = {1, 2, 0, LESS, -4, EXIT, 77};
        int[] tail = {0, 3, 1, GREATER, 9, SET, 2};
        LoopJoiner joiner = joinerOf(head, first, second, tail);
        checks.same("change: join", joiner.change(0, JOIN, 1, 0), 1);
        expectProgram("join: new", joiner, 1, head,
                new int[] {1, 2, 0, ALWAYS, 0, COUNT, 0, EQUAL, 1003, COUNT, 1, LESS, -4, EXIT, 77}, tail);
        expectProgram("join: old", joiner, 0, head, first, second, tail);
        joiner.addStep(1, 1, 0, 0, MARK, 3);
        expectProgram("join: the old one shares nothing", joiner, 0, head, first, second, tail);
    }

    private static void changeDivide() {
        int[] head = {5, 5, 0, EQUAL, 1, BREAK, 0};
        int[] old = {3, 1, 0, ALWAYS, 0, COUNT, 0, EQUAL, 4, SET, 1, LESS, -4, EXIT, 77, ALWAYS, 1001, MARK, 3};
        int[] tail = {0, 3, 1, GREATER, 9, SET, 2};
        LoopJoiner joiner = joinerOf(head, old, tail);
        checks.same("change: divide", joiner.change(0, DIVIDE, 1, 1), 1);
        checks.same("change: divide at the last", joiner.change(0, DIVIDE, 1, 3), 2);
        expectProgram("divide: new", joiner, 1, head, new int[] {3, 1, 0, ALWAYS, 0, COUNT, 0},
                new int[] {3, 1, 0, EQUAL, 4, SET, 1, LESS, -4, EXIT, 77, ALWAYS, 1001, MARK, 3}, tail);
        expectProgram("divide: at the last", joiner, 2, head,
                new int[] {3, 1, 0, ALWAYS, 0, COUNT, 0, EQUAL, 4, SET, 1, LESS, -4, EXIT, 77},
                new int[] {3, 1, 0, ALWAYS, 1001, MARK, 3}, tail);
        expectProgram("divide: old", joiner, 0, head, old, tail);
        int[] first = {0, 0, 1, ALWAYS, 0, COUNT, 0};
        int[] second = {0, 0, 1, ALWAYS, 0, EXIT, 1};
        int both = addProgramOf(joiner, new int[] {0, 0, 1, ALWAYS, 0, COUNT, 0, ALWAYS, 0, EXIT, 1});
        int divided = joiner.change(both, DIVIDE, 0, 1);
        expectProgram("divide: and strip", joiner, joiner.change(divided, STRIP, 0, 0), first, second);
    }

    private static void changePeel() {
        int[] head = {5, 5, 0, EQUAL, 1, BREAK, 0};
        int[] old = {1, 2, 1, LESS, 1000, SET, 0, ALWAYS, 0, COUNT, 1};
        int[] tail = {0, 3, 1, GREATER, 9, SET, 2};
        LoopJoiner joiner = joinerOf(head, old, tail);
        checks.same("change: peel", joiner.change(0, PEEL, 1, 6), 1);
        expectProgram("peel: new", joiner, 1, head, new int[] {1, 4, 1, LESS, 1000, SET, 0, ALWAYS, 0, COUNT, 1},
                new int[] {2, 2, 1, LESS, 1000, SET, 0, ALWAYS, 0, COUNT, 1}, tail);
        expectProgram("peel: old", joiner, 0, head, old, tail);
        checks.same("peel: the same on rows of 6", joiner.differ(0, 1, 6, 3), 0);
        checks.same("change: peel of the only place", joiner.change(0, PEEL, 1, 4), 2);
        expectProgram("peel: only place", joiner, 2, head, new int[] {1, 2, 1, LESS, 1000, SET, 0, ALWAYS, 0, COUNT, 1},
                new int[] {2, 2, 1, LESS, 1000, SET, 0, ALWAYS, 0, COUNT, 1}, tail);
    }

    private static void changeTurnAndSwap() {
        int[] first = {1, 2, 1, LESS, 1003, COUNT, 0, EQUAL, 5, EXIT, 9};
        int[] second = {0, 4, 0, GREATER, 6, ADD, 1};
        int[] third = {5, 0, 1, ALWAYS, 0, COUNT, 1, ALWAYS, 0, COUNT, 2, EQUAL, 0, BREAK, 0};
        LoopJoiner joiner = joinerOf(first, second, third);
        checks.same("change: turn down", joiner.change(0, TURN, 0, 0), 1);
        checks.same("change: turn up", joiner.change(0, TURN, 1, 0), 2);
        checks.same("change: swap", joiner.change(0, SWAP, 0, 0), 3);
        expectProgram("turn: down", joiner, 1, new int[] {1, 2, 0, LESS, 1003, COUNT, 0, EQUAL, 5, EXIT, 9}, second, third);
        expectProgram("turn: up", joiner, 2, first, new int[] {0, 4, 1, GREATER, 6, ADD, 1}, third);
        expectProgram("swap", joiner, 3, second, first, third);
        checks.same("change: swap of the last", joiner.change(3, SWAP, 1, 0), 4);
        expectProgram("swap: of the last", joiner, 4, second, third, first);
        expectProgram("turn and swap: old", joiner, 0, first, second, third);
    }

    private static void changeStrip() {
        int[] empty = {2, 2, 1};
        LoopJoiner joiner = joinerOf(empty, new int[] {0, 0, 1, EQUAL, 3, EXIT, 1, ALWAYS, 1000, BREAK, 0, ALWAYS, 0, COUNT, 1},
                empty, empty, new int[] {1, 0, 0, ALWAYS, 7, EXIT, 4, ALWAYS, 0, EXIT, 5, LESS, 2, SET, 0},
                new int[] {0, 1, 1, LESS, 2, BREAK, 0, ALWAYS, 0, COUNT, 3}, empty);
        checks.same("change: strip", joiner.change(0, STRIP, 0, 0), 1);
        expectProgram("strip", joiner, 1, new int[] {0, 0, 1, EQUAL, 3, EXIT, 1, ALWAYS, 1000, BREAK, 0},
                new int[] {1, 0, 0, ALWAYS, 7, EXIT, 4}, new int[] {0, 1, 1, LESS, 2, BREAK, 0, ALWAYS, 0, COUNT, 3});
        checks.same("strip: the old one stays", joiner.loops(0), 7);
        checks.same("strip: the code that is left out does not count", joiner.reason(1, TURN, 1, 0), 0);
        joiner.addProgram();
        checks.same("change: strip without loops", joiner.change(2, STRIP, 0, 0), 3);
        checks.same("strip: without loops", joiner.loops(3), 0);
        addProgramOf(joiner, empty, empty);
        checks.same("change: strip of all", joiner.change(4, STRIP, 0, 0), 5);
        checks.same("strip: of all", joiner.loops(5), 0);
        checks.same("strip: a loop may be added again", joiner.addLoop(5, 1, 1, true), 0);
        checks.same("strip: it is without steps", joiner.loop(5, 0, 3), 0);
        checks.same("strip: a loop behind those that are left", joiner.addLoop(1, 1, 1, true), 3);
        checks.same("strip: that one is without steps", joiner.loop(1, 3, 3), 0);
    }

    private static void changeRefused() {
        LoopJoiner joiner = joinerOf(new int[] {0, 0, 1, ALWAYS, 0, SET, 0}, new int[] {0, 0, 1, ALWAYS, 0, SET, 0});
        checks.refused(joiner, "change: join, reason 4", STATE, () -> joiner.change(0, JOIN, 0, 0));
        checks.refused(joiner, "change: swap, reason 4", STATE, () -> joiner.change(0, SWAP, 0, 0));
        checks.refused(joiner, "change: turn, reason 10", STATE, () -> joiner.change(0, TURN, 0, 0));
        checks.refused(joiner, "change: peel, reason 8", STATE, () -> joiner.change(0, PEEL, 0, 7));
        for (int number = 1; number < 10; number++) {
            checks.same("change: up to 10 programs", joiner.change(0, STRIP, 0, 0), number);
        }
        checks.refused(joiner, "change: the eleventh program", STATE, () -> joiner.change(0, STRIP, 0, 0));
        checks.refused(joiner, "change: wrong with ahead of 10 programs", ARGUMENT, () -> joiner.change(0, STRIP, 0, 1));
        checks.same("reason: 10 programs are none", joiner.reason(0, STRIP, 0, 0), 0);
    }

    private static void joinAll() {
        int[] zero = {0, 0, 1, ALWAYS, 0, COUNT, 0};
        int[] one = {0, 0, 1, ALWAYS, 0, COUNT, 1};
        int[] two = {0, 0, 1, ALWAYS, 0, COUNT, 2};
        LoopJoiner joiner = joinerOf(zero, one, two, new int[] {0, 0, 0}, zero, two, one);
        checks.same("joinAll", joiner.joinAll(0), 4);
        expectProgram("joinAll", joiner, 0,
                new int[] {0, 0, 1, ALWAYS, 0, COUNT, 0, ALWAYS, 0, COUNT, 1, ALWAYS, 0, COUNT, 2},
                new int[] {0, 0, 0}, new int[] {0, 0, 1, ALWAYS, 0, COUNT, 0, ALWAYS, 0, COUNT, 2, ALWAYS, 0, COUNT, 1});
        checks.same("joinAll: again", joiner.joinAll(0), 0);
        joiner.put(1);
        expectRun("joinAll: the joined loops are gone", joiner, -1, 2, 2, 2, 0, 6);
        checks.same("joinAll: makes no program", joiner.programs(), 1);
        checks.same("joinAll: a loop behind those that are left", joiner.addLoop(0, 0, 0, true), 3);
        checks.same("joinAll: that one is without steps", joiner.loop(0, 3, 3), 0);
        LoopJoiner least = joinerOf(zero, new int[] {0, 0, 1, ALWAYS, 0, ADD, 0},
                new int[] {0, 0, 1, ALWAYS, 0, ADD, 1, ALWAYS, 0, ADD, 1, ALWAYS, 0, ADD, 1, ALWAYS, 0, ADD, 1},
                new int[] {0, 0, 1, ALWAYS, 0, ADD, 2, ALWAYS, 0, ADD, 2});
        checks.same("joinAll: the least one first", least.joinAll(0), 1);
        expectProgram("joinAll: the least one first", least, 0, zero,
                new int[] {0, 0, 1, ALWAYS, 0, ADD, 0, ALWAYS, 0, ADD, 1, ALWAYS, 0, ADD, 1, ALWAYS, 0, ADD, 1,
                    ALWAYS, 0, ADD, 1}, new int[] {0, 0, 1, ALWAYS, 0, ADD, 2, ALWAYS, 0, ADD, 2});
        int[] bare = {3, 3, 0};
        LoopJoiner eight = joinerOf(bare, bare, bare, bare, bare, bare, bare, bare);
        checks.same("joinAll: eight loops", eight.joinAll(0), 7);
        expectProgram("joinAll: eight loops", eight, 0, bare);
        LoopJoiner none = joinerOf();
        checks.same("joinAll: no loops", none.joinAll(0), 0);
        for (int bad : new int[] {-1, 1, LEAST, MOST}) {
            checks.refused(none, "joinAll: program " + bad, INDEX, () -> none.joinAll(bad));
        }
    }

    private static void differ() {
        LoopJoiner joiner = joinerOf(new int[] {0, 0, 1, EQUAL, 2, COUNT, 0});
        addProgramOf(joiner, new int[] {0, 0, 1, GREATER, 1, COUNT, 0});
        addProgramOf(joiner, new int[] {1, 0, 1, EQUAL, 2, COUNT, 0});
        addProgramOf(joiner, new int[] {0, 0, 1, EQUAL, 2, EXIT, 0});
        addProgramOf(joiner, new int[] {0, 0, 1, ALWAYS, 0, SET, 3, EQUAL, 2, EXIT, 0});
        addProgramOf(joiner, new int[] {0, 0, 1, EQUAL, 2, EXIT, 1});
        checks.same("differ: values 0 to 2", joiner.differ(0, 1, 3, 3), 0);
        checks.same("differ: values 0 to 3", joiner.differ(0, 1, 3, 4), 37);
        checks.same("differ: the first number is a 2", joiner.differ(0, 2, 4, 4), 64);
        checks.same("differ: both ways", joiner.differ(2, 0, 4, 4), 64);
        checks.same("differ: left or not", joiner.differ(0, 3, 2, 3), 5);
        checks.same("differ: the variables count only where neither was left", joiner.differ(3, 4, 2, 3), 2);
        checks.same("differ: other codes", joiner.differ(3, 5, 2, 3), 5);
        addProgramOf(joiner, new int[] {0, 0, 1, ALWAYS, 0, EXIT, 0});
        checks.same("differ: on all rows", joiner.differ(0, 6, 3, 3), 27);
        checks.same("differ: from itself", joiner.differ(4, 4, 5, 4), 0);
        checks.same("differ: 1024 rows", joiner.differ(0, 3, 5, 4), 1024 - 243);
        checks.same("differ: one value", joiner.differ(0, 3, 6, 1), 0);
        checks.same("differ: no numbers", joiner.differ(0, 3, 0, 4), 0);
        LoopJoiner each = joinerOf(new int[] {0, 0, 1, ALWAYS, 0, ADD, 0}, new int[] {1, 0, 1, ALWAYS, 0, ADD, 3});
        addProgramOf(each, new int[] {0, 0, 1, ALWAYS, 0, ADD, 0});
        checks.same("differ: the last variable alone", each.differ(0, 1, 2, 4), 12);
    }

    private static void firstCase() {
        LoopJoiner joiner = joinerOf(new int[] {0, 0, 1, EQUAL, 2, COUNT, 0});
        addProgramOf(joiner, new int[] {0, 0, 1, GREATER, 1, COUNT, 0});
        addProgramOf(joiner, new int[] {1, 0, 1, EQUAL, 2, COUNT, 0});
        addProgramOf(joiner, new int[] {0, 1, 1, EQUAL, 2, COUNT, 0});
        addProgramOf(joiner, new int[] {0, 0, 1, ALWAYS, 0, EXIT, 0});
        checks.same("firstCase: none", joiner.firstCase(0, 1, 3, 3), -1);
        checks.same("firstCase: the last number is a 3", joiner.firstCase(0, 1, 3, 4), 3);
        checks.same("firstCase: the first number is the highest digit", joiner.firstCase(0, 2, 4, 4), 128);
        checks.same("firstCase: each call begins anew", joiner.firstCase(0, 2, 4, 4), 128);
        checks.same("firstCase: and those of others", joiner.cost(4, 4, 4, false), 256);
        checks.same("firstCase: the last number is the lowest digit", joiner.firstCase(0, 3, 4, 4), 2);
        checks.same("firstCase: the first row", joiner.firstCase(0, 4, 2, 2), 0);
        checks.same("firstCase: no numbers", joiner.firstCase(0, 4, 0, 2), -1);
        int[] onlyThrees = {0, 0, 1, LESS, 3, EXIT, 8};
        LoopJoiner last = joinerOf(onlyThrees, new int[] {0, 0, 1, ALWAYS, 0, COUNT, 0});
        addProgramOf(last, onlyThrees, new int[] {0, 0, 1, ALWAYS, 0, COUNT, 1});
        checks.same("firstCase: the last row", last.firstCase(0, 1, 5, 4), 1023);
        checks.same("firstCase: the last row alone", last.differ(0, 1, 5, 4), 1);
    }

    private static void cost() {
        LoopJoiner joiner = joinerOf(new int[] {0, 0, 1, EQUAL, 1, BREAK, 0, ALWAYS, 0, COUNT, 0});
        checks.same("cost: most", joiner.cost(0, 2, 2, true), 4);
        checks.same("cost: sum", joiner.cost(0, 2, 2, false), 4 + 3 + 1 + 1);
        checks.same("cost: one row", joiner.cost(0, 6, 1, false), 12);
        checks.same("cost: no numbers", joiner.cost(0, 0, 4, false), 0);
        checks.same("cost: no numbers, most", joiner.cost(0, 0, 4, true), 0);
        LoopJoiner left = joinerOf(new int[] {0, 0, 0, EQUAL, 1, EXIT, 0}, new int[] {0, 0, 1, ALWAYS, 0, COUNT, 0});
        checks.same("cost: EXIT, most", left.cost(0, 2, 2, true), 4);
        checks.same("cost: EXIT, sum", left.cost(0, 2, 2, false), 4 + 1 + 2 + 1);
        LoopJoiner long6 = joinerOf(new int[] {0, 0, 1, ALWAYS, 0, ADD, 0, ALWAYS, 0, ADD, 0, ALWAYS, 0, ADD, 0});
        checks.same("cost: 1024 rows", long6.cost(0, 5, 4, false), 1024 * 15);
        checks.same("cost: 729 rows", long6.cost(0, 6, 3, false), 729 * 18);
    }

    private static void exits() {
        LoopJoiner joiner = joinerOf(new int[] {0, 0, 1, EQUAL, 2, EXIT, 0});
        checks.sameDouble("exits: thirds", joiner.exits(0, 1, 3), 1.0 / 3.0);
        checks.sameDouble("exits: 729 rows", joiner.exits(0, 6, 3), 665.0 / 729.0);
        checks.sameDouble("exits: 1024 rows", joiner.exits(0, 5, 4), 781.0 / 1024.0);
        checks.sameDouble("exits: none", joiner.exits(0, 6, 2), 0.0);
        checks.sameDouble("exits: no numbers", joiner.exits(0, 0, 1), 0.0);
        LoopJoiner broken = joinerOf(new int[] {0, 0, 1, ALWAYS, 0, BREAK, 0, ALWAYS, 0, EXIT, 1});
        checks.sameDouble("exits: BREAK is none", broken.exits(0, 3, 3), 0.0);
        LoopJoiner all = joinerOf(new int[] {0, 0, 1, ALWAYS, 0, EXIT, 1});
        checks.sameDouble("exits: all", all.exits(0, 3, 3), 1.0);
    }

    private static void casesInputs() {
        LoopJoiner joiner = joinerOf(new int[] {0, 0, 1, ALWAYS, 0, COUNT, 0});
        joiner.addProgram();
        int[][] wrong = {{-1, 1}, {7, 1}, {0, 0}, {0, 5}, {6, 4}, {7, 4}, {5, 5}, {2, -1}, {LEAST, 2}, {MOST, 2}, {2, LEAST}, {2, MOST}};
        for (int[] nv : wrong) {
            int n = nv[0];
            int v = nv[1];
            String rows = " over " + n + " numbers of " + v + " values";
            checks.refused(joiner, "differ" + rows, ARGUMENT, () -> joiner.differ(0, 1, n, v));
            checks.refused(joiner, "firstCase" + rows, ARGUMENT, () -> joiner.firstCase(0, 1, n, v));
            checks.refused(joiner, "cost" + rows, ARGUMENT, () -> joiner.cost(0, n, v, true));
            checks.refused(joiner, "cost, sum," + rows, ARGUMENT, () -> joiner.cost(0, n, v, false));
            checks.refused(joiner, "exits" + rows, ARGUMENT, () -> joiner.exits(0, n, v));
        }
        for (int bad : new int[] {-1, 2, LEAST, MOST}) {
            checks.refused(joiner, "differ: a " + bad, INDEX, () -> joiner.differ(bad, 0, 9, 9));
            checks.refused(joiner, "differ: b " + bad, INDEX, () -> joiner.differ(0, bad, 9, 9));
            checks.refused(joiner, "firstCase: a " + bad, INDEX, () -> joiner.firstCase(bad, 0, 9, 9));
            checks.refused(joiner, "firstCase: b " + bad, INDEX, () -> joiner.firstCase(0, bad, 9, 9));
            checks.refused(joiner, "cost: " + bad, INDEX, () -> joiner.cost(bad, 9, 9, true));
            checks.refused(joiner, "exits: " + bad, INDEX, () -> joiner.exits(bad, 9, 9));
        }
    }

    private static void digest() {
        checks.same("digest: new", new LoopJoiner().digest(), mixed(0, 0, 0, 0, 0, 0, 0));
        LoopJoiner joiner = joinerOf(new int[] {1, 2, 1, LESS, -3, EXIT, 4, EQUAL, 1001, ADD, 2}, new int[] {5, 0, 0});
        joiner.addProgram();
        checks.same("digest: programs", joiner.digest(),
                mixed(2, 2, 1, 2, 1, 2, LESS, -3, EXIT, 4, EQUAL, 1001, ADD, 2, 5, 0, 0, 0, 0, 0, 0, 0, 0, 0, 0));
        joiner.put(Long.MIN_VALUE);
        joiner.put(-9);
        joiner.put(-9);
        joiner.put(0);
        checks.same("digest: row", joiner.digest(), mixed(2, 2, 1, 2, 1, 2, LESS, -3, EXIT, 4, EQUAL, 1001, ADD, 2,
                5, 0, 0, 0, 0, 4, Long.MIN_VALUE, -9, -9, 0, 0, 0, 0, 0, 0));
        joiner.addStep(0, 1, ALWAYS, 0, ADD, 3);
        joiner.put(6);
        joiner.put(8);
        joiner.addLoop(1, 0, 0, true);
        joiner.addStep(1, 0, ALWAYS, 0, SET, 1);
        joiner.run(1);
        checks.same("digest: run", joiner.digest(), mixed(2, 2, 1, 2, 1, 2, LESS, -3, EXIT, 4, EQUAL, 1001, ADD, 2,
                5, 0, 0, 1, 0, 0, ADD, 3, 1, 0, 0, 1, 1, 0, 0, SET, 1, 6, Long.MIN_VALUE, -9, -9, 0, 6, 8, 0, 8, 0, 0, 6));
        long before = joiner.digest();
        checks.same("digest: changes nothing", joiner.digest(), before);
    }

    private static long mixed(long... numbers) {
        long d = 373;
        for (long x : numbers) {
            d = d * 31 + x;
        }
        return d;
    }
}
