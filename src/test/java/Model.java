import java.util.ArrayList;
import java.util.List;
import java.util.NoSuchElementException;

/**
 * The face of the class once more, on the oracle: each call answers, or throws, what the document says, in its plainest
 * form and with nothing kept but the state that the document names. A boolean counts 1 or 0, a call without an
 * answer 0.
 */
final class Model {
    private Oracle now = new Oracle();
    private Oracle saved = null;
    private String buffer = "";
    private int fault = -1;

    int call(String name, int... a) {
        return switch (name) {
            case "append" -> append(a[0]);
            case "read" -> read();
            case "faultPosition" -> fault;
            case "removeLoop" -> removeLoop(a[0]);
            case "loopCount" -> now.loops.size();
            case "bound" -> bound(a[0], a[1]);
            case "setBound" -> setBound(a[0], a[1], a[2]);
            case "statementCount" -> loop(a[0]).targets.size();
            case "referenceCount" -> loop(a[0]).refs.size();
            case "reference" -> reference(a[0], a[1], a[2]);
            case "operators" -> operators(a[0], a[1], a[2]);
            case "height" -> Oracle.height(expression(a[0], a[1]));
            case "value" -> value(a[0], a[1], a[2]);
            case "setOption" -> setOption(a[0], a[1]);
            case "setBarrier" -> setBarrier(a[0], a[1] != 0);
            case "dependenceCount" -> dependences(a[0], a[1]).size();
            case "dependence" -> dependence(a[0], a[1], a[2], a[3]);
            case "required" -> required(a[0], a[1]);
            case "save" -> save();
            case "restore" -> restore();
            default -> arrange(name, a);
        };
    }

    private int arrange(String name, int... a) {
        return switch (name) {
            case "isAllowed" -> isAllowed(a[0], a[1]);
            case "hits" -> hits(a[0], a[1]);
            case "groupCount" -> starts(a[0]).size() - 1;
            case "groupOf" -> groupOf(a[0], a[1]);
            case "shift" -> shift(a[0], a[1]);
            case "step" -> step(a[0], a[1], a[2]);
            case "peeled" -> peeled(a[0], a[1], a[2]);
            case "carried" -> carried(a[0], a[1]);
            case "reads" -> reads(a[0], a[1]);
            case "run" -> run(a[0]);
            case "cell" -> cell(a[0], a[1], a[2]);
            case "changed" -> changed(a[0]);
            default -> throw new AssertionError(name);
        };
    }

    /** How many characters the buffer still takes. */
    int room() {
        return 120 - buffer.length();
    }

    private static void index(boolean there) {
        if (!there) {
            throw new IndexOutOfBoundsException();
        }
    }

    private static void argument(boolean allowed) {
        if (!allowed) {
            throw new IllegalArgumentException();
        }
    }

    private static void element(boolean there) {
        if (!there) {
            throw new NoSuchElementException();
        }
    }

    private static void state(boolean allowed) {
        if (!allowed) {
            throw new IllegalStateException();
        }
    }

    private static boolean within(int least, int number, int greatest) {
        return least <= number && number <= greatest;
    }

    private Oracle.Loop loop(int number) {
        index(within(0, number, now.loops.size() - 1));
        return now.loops.get(number);
    }

    private String expression(int loop, int statement) {
        index(within(0, statement, loop(loop).targets.size() - 1));
        return loop(loop).expressions.get(statement);
    }

    private int append(int packed) {
        StringBuilder signs = new StringBuilder();
        for (byte sign : java.nio.ByteBuffer.allocate(4).putInt(packed).array()) {
            if (sign != 0) {
                argument(within(33, sign & 255, 126));
                signs.append((char) sign);
            }
        }
        state(buffer.length() + signs.length() <= 120);
        buffer += signs;
        return buffer.length();
    }

    private int read() {
        String text = buffer;
        buffer = "";
        fault = Oracle.faultOf(text);
        argument(fault < 0);
        List<Oracle.Loop> more = Oracle.loopsOf(text);
        state(now.loops.size() + more.size() <= 6);
        now.loops.addAll(more);
        return more.size();
    }

    private int removeLoop(int number) {
        loop(number);
        now.loops.remove(number);
        return now.loops.size();
    }

    private int bound(int number, int side) {
        Oracle.Loop loop = loop(number);
        argument(within(0, side, 1));
        return side == 0 ? loop.first : loop.last;
    }

    private int setBound(int number, int side, int value) {
        int before = bound(number, side);
        Oracle.Loop loop = loop(number);
        argument(side == 0 ? within(0, value, loop.last) : within(loop.first, value, 30));
        loop.first = side == 0 ? value : loop.first;
        loop.last = side == 1 ? value : loop.last;
        return before;
    }

    private int reference(int number, int reference, int what) {
        index(within(0, reference, loop(number).refs.size() - 1));
        argument(within(0, what, 3));
        Oracle.Ref ref = loop(number).refs.get(reference);
        return new int[] {ref.array, ref.offset, ref.write ? 1 : 0, ref.statement}[what];
    }

    private int operators(int number, int statement, int operator) {
        String expression = expression(number, statement);
        argument(within(0, operator, 2));
        return Oracle.operators(expression, "+-*".charAt(operator));
    }

    private int value(int number, int statement, int i) {
        String expression = expression(number, statement);
        argument(within(loop(number).first, i, loop(number).last));
        return Oracle.value(expression, i, now.initial());
    }

    private int setOption(int option, int value) {
        index(within(0, option, 2));
        argument(option == 2 || within(0, value, option == 0 ? 20 : 9));
        int before = option == 0 ? now.limit : option == 1 ? now.window : now.seed;
        now.limit = option == 0 ? value : now.limit;
        now.window = option == 1 ? value : now.window;
        now.seed = option == 2 ? value : now.seed;
        return before;
    }

    private int setBarrier(int number, boolean barrier) {
        boolean before = loop(number).barrier;
        loop(number).barrier = barrier;
        return before ? 1 : 0;
    }

    private List<int[]> dependences(int p, int q) {
        loop(p);
        loop(q);
        argument(p < q);
        return now.dependences(p, q);
    }

    private int dependence(int p, int q, int number, int what) {
        loop(p);
        loop(q);
        index(within(0, what, 2));
        List<int[]> dependences = dependences(p, q);
        element(within(0, number, dependences.size() - 1));
        return dependences.get(number)[what];
    }

    private int required(int p, int q) {
        List<int[]> dependences = dependences(p, q);
        element(!dependences.isEmpty());
        return dependences.stream().mapToInt(dependence -> dependence[2]).max().getAsInt();
    }

    private int save() {
        saved = copy(now);
        return 0;
    }

    private int restore() {
        state(saved != null);
        now = copy(saved);
        return 0;
    }

    private static Oracle copy(Oracle from) {
        Oracle to = new Oracle();
        to.limit = from.limit;
        to.window = from.window;
        to.seed = from.seed;
        for (Oracle.Loop loop : from.loops) {
            Oracle.Loop twin = new Oracle.Loop();
            twin.first = loop.first;
            twin.last = loop.last;
            twin.barrier = loop.barrier;
            twin.expressions.addAll(loop.expressions);
            twin.targets.addAll(loop.targets);
            twin.refs.addAll(loop.refs);
            to.loops.add(twin);
        }
        return to;
    }

    private int isAllowed(int first, int last) {
        loop(first);
        loop(last);
        argument(first <= last);
        return now.allowed(first, last) ? 1 : 0;
    }

    private int hits(int first, int last) {
        isAllowed(first, last);
        return now.hitDistances(first, last).size();
    }

    /** The first loop of each group, and behind them the number of loops. */
    private List<Integer> starts(int arrangement) {
        argument(within(0, arrangement, 2));
        List<Integer> starts = new ArrayList<>(List.of(0));
        for (int size : now.sizes(arrangement)) {
            starts.add(starts.get(starts.size() - 1) + size);
        }
        return starts;
    }

    private int groupOf(int arrangement, int loop) {
        List<Integer> starts = starts(arrangement);
        loop(loop);
        return (int) starts.stream().filter(start -> start <= loop).count() - 1;
    }

    private int shift(int arrangement, int loop) {
        int first = starts(arrangement).get(groupOf(arrangement, loop));
        return now.shifts(first, loop)[loop - first];
    }

    /** The time steps of a loop in its group, all of them. */
    private List<Integer> times(int arrangement, int loop) {
        List<Integer> times = new ArrayList<>();
        int shift = shift(arrangement, loop);
        for (int i = loop(loop).first; i <= loop(loop).last; i++) {
            times.add(i + shift);
        }
        return times;
    }

    private int step(int arrangement, int group, int what) {
        List<Integer> starts = starts(arrangement);
        argument(within(0, what, 3));
        index(within(0, group, starts.size() - 2));
        List<Integer> any = new ArrayList<>();
        List<Integer> all = times(arrangement, starts.get(group));
        for (int loop = starts.get(group); loop < starts.get(group + 1); loop++) {
            any.addAll(times(arrangement, loop));
            all.retainAll(times(arrangement, loop));
        }
        List<Integer> steps = what < 2 ? any : all;
        element(!steps.isEmpty());
        return what % 2 == 0 ? steps.stream().min(Integer::compare).get() : steps.stream().max(Integer::compare).get();
    }

    private int peeled(int arrangement, int loop, int side) {
        starts(arrangement);
        argument(within(0, side, 1));
        int group = groupOf(arrangement, loop);
        List<Integer> times = times(arrangement, loop);
        int first;
        int last;
        try {
            first = step(arrangement, group, 2);
            last = step(arrangement, group, 3);
        } catch (NoSuchElementException e) {
            return side == 0 ? times.size() : 0;
        }
        return (int) times.stream().filter(time -> side == 0 ? time < first : time > last).count();
    }

    private int carried(int arrangement, int group) {
        List<Integer> starts = starts(arrangement);
        index(within(0, group, starts.size() - 2));
        return now.carried(starts.get(group), starts.get(group + 1) - 1);
    }

    private int reads(int arrangement, int what) {
        List<Integer> starts = starts(arrangement);
        argument(within(0, what, 2));
        List<Integer> distances = new ArrayList<>();
        for (int group = 0; group + 1 < starts.size(); group++) {
            distances.addAll(now.hitDistances(starts.get(group), starts.get(group + 1) - 1));
        }
        int reads = 0;
        for (Oracle.Loop loop : now.loops) {
            reads += (loop.last - loop.first + 1) * (loop.refs.size() - loop.targets.size());
        }
        return what == 0 ? reads : what == 1 ? distances.size() : distances.stream().max(Integer::compare).orElse(0);
    }

    private int run(int arrangement) {
        starts(arrangement);
        int h = 7;
        for (int[] array : now.run(arrangement)) {
            for (int content : array) {
                h = 31 * h + content;
            }
        }
        return h;
    }

    private int cell(int arrangement, int array, int cell) {
        starts(arrangement);
        index(within(0, array, 4) && within(-9, cell, 39));
        return now.run(arrangement)[array][cell + 9];
    }

    private int changed(int arrangement) {
        starts(arrangement);
        int changed = 0;
        int[][] cells = now.run(arrangement);
        for (int array = 0; array < 5; array++) {
            for (int at = 0; at < 49; at++) {
                changed += cells[array][at] == now.initial()[array][at] ? 0 : 1;
            }
        }
        return changed;
    }
}
