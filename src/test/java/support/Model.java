import java.util.ArrayList;
import java.util.Arrays;
import java.util.HashSet;
import java.util.List;
import java.util.Set;
import java.util.function.Predicate;

/** The document once more, told with lists and sets: what the class is compared with. */
final class Model {
    record Step(int look, int with, int deed, int of) {
        Set<Integer> looksWith() {
            return look != 0 && with >= 1000 ? Set.of(with - 1000) : Set.of();
        }

        Set<Integer> reads() {
            Set<Integer> all = new HashSet<>(looksWith());
            if (deed == 2 || deed == 3) {
                all.add(of);
            }
            return all;
        }

        Set<Integer> writes() {
            return deed <= 3 ? Set.of(of) : Set.of();
        }

        boolean leavesAlways() {
            return look == 0 && deed >= 4;
        }
    }

    record Loop(int skip, int stop, boolean isUp, List<Step> steps) {
        Loop with(List<Step> others) {
            return new Loop(skip, stop, isUp, List.copyOf(others));
        }
    }

    record Run(int code, List<Long> variables, int looks) {
        Object answer() {
            return code >= 0 ? (Object) code : variables;
        }
    }

    final List<List<Loop>> programs = new ArrayList<>();
    final List<Long> row = new ArrayList<>();
    Run latest = new Run(-1, List.of(0L, 0L, 0L, 0L), 0);

    int addProgram() {
        state(programs.size() < 10);
        programs.add(new ArrayList<>());
        return programs.size() - 1;
    }

    int addLoop(int program, int skip, int stop, boolean isUp) {
        index(program, programs.size());
        argument(skip >= 0 && skip <= 5 && stop >= 0 && stop <= 5);
        List<Loop> loops = programs.get(program);
        state(loops.size() < 8);
        loops.add(new Loop(skip, stop, isUp, List.of()));
        return loops.size() - 1;
    }

    int addStep(int program, int loop, int look, int with, int deed, int of) {
        Loop old = loopAt(program, loop);
        argument(look >= 0 && look <= 4);
        argument(with >= -100 && with <= 100 || with >= 1000 && with <= 1003);
        argument(deed >= 0 && deed <= 5);
        argument(of >= 0 && of <= new int[] {3, 3, 3, 3, 0, 100}[deed]);
        state(old.steps().size() < 6);
        List<Step> steps = new ArrayList<>(old.steps());
        steps.add(new Step(look, with, deed, of));
        programs.get(program).set(loop, old.with(steps));
        return steps.size() - 1;
    }

    int loop(int program, int loop, int what) {
        Loop old = loopAt(program, loop);
        index(what, 4);
        return List.of(old.skip(), old.stop(), old.isUp() ? 1 : 0, old.steps().size()).get(what);
    }

    int step(int program, int loop, int step, int what) {
        Loop old = loopAt(program, loop);
        index(step, old.steps().size());
        index(what, 4);
        Step found = old.steps().get(step);
        return List.of(found.look(), found.with(), found.deed(), found.of()).get(what);
    }

    int loops(int program) {
        index(program, programs.size());
        return programs.get(program).size();
    }

    int put(long value) {
        state(row.size() < 40);
        row.add(value);
        return row.size();
    }

    int empty() {
        int had = row.size();
        row.clear();
        return had;
    }

    int run(int program) {
        index(program, programs.size());
        latest = runOver(programs.get(program), row);
        return latest.code();
    }

    long ran(int what) {
        index(what, 5);
        return what == 4 ? latest.looks() : latest.variables().get(what);
    }

    static Run runOver(List<Loop> program, List<Long> row) {
        long[] variables = new long[4];
        int looks = 0;
        for (Loop loop : program) {
            List<Integer> places = new ArrayList<>();
            for (int place = loop.skip(); place <= row.size() - 1 - loop.stop(); place++) {
                places.add(loop.isUp() ? places.size() : 0, place);
            }
            boolean isLeft = false;
            for (int at = 0; at < places.size() && !isLeft; at++) {
                int place = places.get(at);
                long number = row.get(place);
                for (int s = 0; s < loop.steps().size() && !isLeft; s++) {
                    Step step = loop.steps().get(s);
                    looks++;
                    long other = step.with() >= 1000 ? variables[step.with() - 1000] : step.with();
                    int order = Long.compare(number, other);
                    boolean holds = List.of(true, order == 0, order != 0, order < 0, order > 0).get(step.look());
                    if (holds && step.deed() == 5) {
                        return new Run(step.of(), boxed(variables), looks);
                    }
                    isLeft = holds && step.deed() == 4;
                    if (holds && step.deed() < 4) {
                        long old = variables[step.of()];
                        variables[step.of()] = List.of(number, (long) place, old + 1, old + number).get(step.deed());
                    }
                }
            }
        }
        return new Run(-1, boxed(variables), looks);
    }

    private static List<Long> boxed(long[] variables) {
        return Arrays.stream(variables).boxed().toList();
    }

    int reason(int program, int change, int k, int with) {
        index(program, programs.size());
        index(change, 6);
        List<Loop> loops = programs.get(program);
        index(k, change == 5 ? 1 : change == 0 || change == 4 ? loops.size() - 1 : loops.size());
        argument(switch (change) {
            case 1 -> with >= 1 && with <= loops.get(k).steps().size() - 1;
            case 2 -> with >= 1 && with <= 10;
            default -> with == 0;
        });
        if (change == 5) {
            return 0;
        }
        for (int reason : new int[][] {{1, 2, 3, 4, 5}, {2, 3, 4, 6}, {7, 8, 2, 6}, {2, 9, 10, 11}, {3, 4}}[change]) {
            if (isReason(loops, change, k, with, reason)) {
                return reason;
            }
        }
        return 0;
    }

    private static boolean isReason(List<Loop> loops, int change, int k, int with, int reason) {
        Loop loop = loops.get(k);
        Loop next = change == 0 || change == 4 ? loops.get(k + 1) : loop;
        List<Step> first = change == 1 ? loop.steps().subList(0, with) : loop.steps();
        List<Step> second = change == 1 ? loop.steps().subList(with, loop.steps().size()) : next.steps();
        switch (reason) {
            case 1:
                return !loop.with(List.of()).equals(next.with(List.of()));
            case 2:
                return has(first, s -> s.deed() == 4) || has(second, s -> s.deed() == 4);
            case 3:
                return has(first, s -> s.deed() == 5) && has(second, s -> s.deed() == 5);
            case 4:
                return has(first, a -> has(second, b -> touches(a, b) || touches(b, a)));
            case 5:
                return first.size() + second.size() > 6;
            case 6:
                return loops.size() + 1 > 8;
            case 7:
                return !loop.isUp();
            case 8:
                return loop.skip() + loop.stop() > with - 1 || with - 1 - loop.skip() > 5 || loop.skip() + 1 > 5;
            case 9:
                return has(first, a -> has(first, b -> a.deed() == 5 && b.deed() == 5 && a.of() != b.of()));
            case 10:
                return has(first, s -> s.deed() == 0 || s.deed() == 1);
            default:
                return has(first, a -> has(first, b -> a.looksWith().stream().anyMatch(b.writes()::contains)));
        }
    }

    private static boolean touches(Step writer, Step other) {
        return writer.writes().stream().anyMatch(v -> other.reads().contains(v) || other.writes().contains(v));
    }

    private static boolean has(List<Step> steps, Predicate<Step> isSo) {
        return steps.stream().anyMatch(isSo);
    }

    int change(int program, int change, int k, int with) {
        state(reason(program, change, k, with) == 0);
        state(programs.size() < 10);
        List<Loop> loops = new ArrayList<>(programs.get(program));
        if (change == 5) {
            loops.removeIf(each -> each.steps().isEmpty());
            loops.replaceAll(Model::stripped);
        } else if (change == 4) {
            loops.add(k, loops.remove(k + 1));
        } else {
            Loop old = loops.remove(k);
            List<Loop> fresh = switch (change) {
                case 0 -> List.of(joined(old, loops.remove(k)));
                case 1 -> List.of(old.with(old.steps().subList(0, with)),
                        old.with(old.steps().subList(with, old.steps().size())));
                case 2 -> List.of(new Loop(old.skip(), with - 1 - old.skip(), true, old.steps()),
                        new Loop(old.skip() + 1, old.stop(), true, old.steps()));
                default -> List.of(new Loop(old.skip(), old.stop(), !old.isUp(), old.steps()));
            };
            loops.addAll(k, fresh);
        }
        programs.add(loops);
        return programs.size() - 1;
    }

    private static Loop joined(Loop first, Loop second) {
        List<Step> steps = new ArrayList<>(first.steps());
        steps.addAll(second.steps());
        return first.with(steps);
    }

    private static Loop stripped(Loop loop) {
        List<Step> kept = new ArrayList<>();
        for (Step step : loop.steps()) {
            if (kept.isEmpty() || !kept.get(kept.size() - 1).leavesAlways()) {
                kept.add(step);
            }
        }
        return loop.with(kept);
    }

    int joinAll(int program) {
        index(program, programs.size());
        List<Loop> loops = programs.get(program);
        int joins = 0;
        for (int k = 0; k + 1 < loops.size(); k++) {
            if (reason(program, 0, k, 0) == 0) {
                loops.set(k, joined(loops.get(k), loops.remove(k + 1)));
                joins++;
                k = -1;
            }
        }
        return joins;
    }

    private List<List<Long>> rows(int n, int v) {
        argument(n >= 0 && n <= 6 && v >= 1 && v <= 4 && Math.pow(v, n) <= 1024);
        List<List<Long>> rows = List.of(List.of());
        for (int i = 0; i < n; i++) {
            List<List<Long>> longer = new ArrayList<>();
            for (List<Long> each : rows) {
                for (long digit = 0; digit < v; digit++) {
                    List<Long> one = new ArrayList<>(each);
                    one.add(digit);
                    longer.add(one);
                }
            }
            rows = longer;
        }
        return rows;
    }

    private List<Integer> differing(int a, int b, int n, int v) {
        index(a, programs.size());
        index(b, programs.size());
        List<Integer> found = new ArrayList<>();
        List<List<Long>> rows = rows(n, v);
        for (int number = 0; number < rows.size(); number++) {
            Object first = runOver(programs.get(a), rows.get(number)).answer();
            if (!first.equals(runOver(programs.get(b), rows.get(number)).answer())) {
                found.add(number);
            }
        }
        return found;
    }

    int differ(int a, int b, int n, int v) {
        return differing(a, b, n, v).size();
    }

    int firstCase(int a, int b, int n, int v) {
        List<Integer> found = differing(a, b, n, v);
        return found.isEmpty() ? -1 : found.get(0);
    }

    int cost(int program, int n, int v, boolean isMost) {
        index(program, programs.size());
        var costs = rows(n, v).stream().mapToInt(each -> runOver(programs.get(program), each).looks());
        return isMost ? costs.max().getAsInt() : costs.sum();
    }

    double exits(int program, int n, int v) {
        index(program, programs.size());
        List<List<Long>> rows = rows(n, v);
        long left = rows.stream().filter(each -> runOver(programs.get(program), each).code() >= 0).count();
        return (double) left / rows.size();
    }

    long digest() {
        List<Long> all = new ArrayList<>();
        all.add((long) programs.size());
        for (List<Loop> program : programs) {
            all.add((long) program.size());
            for (Loop loop : program) {
                all.addAll(List.of((long) loop.skip(), (long) loop.stop(), loop.isUp() ? 1L : 0L, (long) loop.steps().size()));
                for (Step s : loop.steps()) {
                    all.addAll(List.of((long) s.look(), (long) s.with(), (long) s.deed(), (long) s.of()));
                }
            }
        }
        all.add((long) row.size());
        all.addAll(row);
        all.addAll(latest.variables());
        all.add((long) latest.looks());
        return all.stream().reduce(373L, (d, x) -> d * 31 + x);
    }

    private Loop loopAt(int program, int loop) {
        index(program, programs.size());
        index(loop, programs.get(program).size());
        return programs.get(program).get(loop);
    }

    private static void index(int number, int end) {
        if (number < 0 || number >= end) {
            throw new IndexOutOfBoundsException();
        }
    }

    private static void argument(boolean isGood) {
        if (!isGood) {
            throw new IllegalArgumentException();
        }
    }

    private static void state(boolean isGood) {
        if (!isGood) {
            throw new IllegalStateException();
        }
    }
}
