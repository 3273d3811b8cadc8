import java.util.ArrayList;
import java.util.List;
import java.util.NoSuchElementException;
import java.util.Random;

/** Compares the class with the oracle on texts and programs from a fixed sequence of numbers. */
final class OracleTest {
    private static final Checks checks = new Checks();
    private static final Random random = new Random(20261118L);

    public static void main(String[] args) {
        for (int n = 0; n < 3000; n++) {
            compareFault(broken(text(120)));
        }
        for (int n = 0; n < 250; n++) {
            comparePrograms();
        }
        checks.finish();
    }

    private static int below(int bound) {
        return random.nextInt(bound);
    }

    /** A text of one or more loops within the length, often much shorter. */
    private static String text(int length) {
        StringBuilder text = new StringBuilder(loop());
        for (int n = below(6); n > 0; n--) {
            String more = loop();
            if (text.length() + more.length() <= length) {
                text.append(more);
            }
        }
        return text.length() <= length ? text.toString() : "for(0,30){a[i]=a[i]+1}";
    }

    private static String loop() {
        int first = below(below(2) == 0 ? 4 : 31);
        int last = below(3) == 0 ? first + below(31 - first) : Math.min(30, first + 8 + below(6));
        StringBuilder loop = new StringBuilder("for(" + first + "," + last + "){");
        int statements = 1 + below(below(3) == 0 ? 4 : 2);
        for (int n = 0; n < statements; n++) {
            int[] left = {below(6)};
            loop.append(n == 0 ? "" : ";").append(reference()).append('=').append(sum(0, left));
        }
        return loop.append('}').toString();
    }

    private static String reference() {
        char letter = (char) ('a' + below(below(2) == 0 ? 2 : 5));
        int kind = below(4);
        int digit = below(below(3) == 0 ? 10 : 4);
        return letter + "[i" + (kind == 0 ? "" : (kind == 1 ? "-" : "+") + digit) + "]";
    }

    /** A sum with as many references as are left at most; past them numbers and i stand. */
    private static String sum(int open, int[] left) {
        StringBuilder sum = new StringBuilder(product(open, left));
        for (int n = below(3); n > 0; n--) {
            sum.append(below(2) == 0 ? '+' : '-').append(product(open, left));
        }
        return sum.toString();
    }

    private static String product(int open, int[] left) {
        StringBuilder product = new StringBuilder(factor(open, left));
        for (int n = below(5) / 3; n > 0; n--) {
            product.append('*').append(factor(open, left));
        }
        return product.toString();
    }

    private static String factor(int open, int[] left) {
        int kind = below(6);
        if (kind == 0 && open < 3) {
            return "(" + sum(open + 1, left) + ")";
        }
        if (kind > 1 && left[0] > 0) {
            left[0]--;
            return reference();
        }
        return kind % 2 == 0 ? "i" : String.valueOf(below(below(2) == 0 ? 10 : 100));
    }

    /** The text cut, or with some characters changed, added or removed. */
    private static String broken(String text) {
        StringBuilder broken = new StringBuilder(text);
        for (int n = below(3); n > 0; n--) {
            int at = below(broken.length());
            String signs = "for(,){};=+-*[i]()abcde0123456789f!~";
            char sign = signs.charAt(below(signs.length()));
            int kind = below(3);
            if (kind == 0) {
                broken.setCharAt(at, sign);
            } else if (kind == 1) {
                broken.insert(at, sign);
            } else if (broken.length() > 1) {
                broken.deleteCharAt(at);
            }
        }
        int length = below(4) == 0 ? below(broken.length() + 1) : broken.length();
        return broken.substring(0, Math.min(length, 120));
    }

    private static void compareFault(String text) {
        LoopFuser fuser = new LoopFuser();
        Checks.type(fuser, text);
        int want = Oracle.faultOf(text);
        if (want >= 0) {
            checks.fails("read of " + text, IllegalArgumentException.class, fuser::read);
        } else if (text.split("for", -1).length > 7) {
            checks.fails("read of " + text, IllegalStateException.class, fuser::read);
        } else {
            checks.due("read of " + text, text.split("for", -1).length - 1, fuser.read());
        }
        checks.due("fault position of " + text, want, fuser.faultPosition());
    }

    private static void comparePrograms() {
        LoopFuser fuser = new LoopFuser();
        Oracle oracle = new Oracle();
        StringBuilder story = new StringBuilder();
        for (int n = 1 + below(4); n > 0; n--) {
            String text = text(120);
            List<Oracle.Loop> more = Oracle.loopsOf(text);
            if (oracle.loops.size() + more.size() <= 6) {
                Checks.add(fuser, text);
                oracle.loops.addAll(more);
                story.append(text).append(' ');
            }
        }
        change(fuser, oracle, story);
        compareAll(story.toString(), fuser, oracle);
        for (int n = 0; n < 3; n++) {
            change(fuser, oracle, story);
            compareArrangements(story.toString(), fuser, oracle);
        }
    }

    private static void change(LoopFuser fuser, Oracle oracle, StringBuilder story) {
        oracle.limit = below(21);
        fuser.setOption(0, oracle.limit);
        oracle.window = below(10);
        fuser.setOption(1, oracle.window);
        oracle.seed = random.nextInt();
        fuser.setOption(2, oracle.seed);
        story.append(" limit ").append(oracle.limit).append(" window ").append(oracle.window);
        if (oracle.loops.isEmpty()) {
            return;
        }
        int number = below(oracle.loops.size());
        Oracle.Loop loop = oracle.loops.get(number);
        loop.barrier = below(4) == 0;
        fuser.setBarrier(number, loop.barrier);
        loop.last = loop.first + below(31 - loop.first);
        fuser.setBound(number, 1, loop.last);
        story.append(" loop ").append(number).append(" to ").append(loop.last).append(" barrier ").append(loop.barrier);
        if (below(6) == 0) {
            oracle.loops.remove(number);
            fuser.removeLoop(number);
            story.append(" removed");
        }
    }

    private static void compareAll(String story, LoopFuser fuser, Oracle oracle) {
        checks.due(story + "loopCount", oracle.loops.size(), fuser.loopCount());
        for (int n = 0; n < oracle.loops.size(); n++) {
            compareLoop(story + " loop " + n, fuser, n, oracle);
        }
        for (int q = 0; q < oracle.loops.size(); q++) {
            for (int p = 0; p < q; p++) {
                comparePair(story, fuser, p, q, oracle);
            }
        }
        compareArrangements(story, fuser, oracle);
    }

    private static void compareLoop(String story, LoopFuser fuser, int n, Oracle oracle) {
        Oracle.Loop loop = oracle.loops.get(n);
        checks.due(story + " first", loop.first, fuser.bound(n, 0));
        checks.due(story + " last", loop.last, fuser.bound(n, 1));
        checks.due(story + " references", loop.refs.size(), fuser.referenceCount(n));
        checks.due(story + " statements", loop.targets.size(), fuser.statementCount(n));
        for (int r = 0; r < loop.refs.size(); r++) {
            Oracle.Ref ref = loop.refs.get(r);
            checks.due(story + " array of " + r, ref.array, fuser.reference(n, r, 0));
            checks.due(story + " offset of " + r, ref.offset, fuser.reference(n, r, 1));
            checks.due(story + " write of " + r, ref.write ? 1 : 0, fuser.reference(n, r, 2));
            checks.due(story + " statement of " + r, ref.statement, fuser.reference(n, r, 3));
        }
        for (int s = 0; s < loop.targets.size(); s++) {
            String expression = loop.expressions.get(s);
            checks.due(story + " height of " + s, Oracle.height(expression), fuser.height(n, s));
            for (int operator = 0; operator < 3; operator++) {
                checks.due(story + " operators of " + s, Oracle.operators(expression, "+-*".charAt(operator)),
                        fuser.operators(n, s, operator));
            }
            for (int i = loop.first; i <= loop.last; i += 3) {
                checks.due(story + " value of " + s, Oracle.value(expression, i, oracle.initial()), fuser.value(n, s, i));
            }
        }
    }

    private static void comparePair(String story, LoopFuser fuser, int p, int q, Oracle oracle) {
        String pair = story + " loops " + p + " and " + q;
        List<int[]> dependences = oracle.dependences(p, q);
        int greatest = Integer.MIN_VALUE;
        checks.due(pair + " dependences", dependences.size(), fuser.dependenceCount(p, q));
        for (int n = 0; n < dependences.size(); n++) {
            for (int what = 0; what < 3; what++) {
                checks.due(pair + " dependence " + n + " " + what, dependences.get(n)[what],
                        fuser.dependence(p, q, n, what));
            }
            greatest = Math.max(greatest, dependences.get(n)[2]);
        }
        if (dependences.isEmpty()) {
            checks.fails(pair + " required", NoSuchElementException.class, () -> fuser.required(p, q));
        } else {
            checks.due(pair + " required", greatest, fuser.required(p, q));
        }
    }

    private static void compareArrangements(String story, LoopFuser fuser, Oracle oracle) {
        for (int q = 0; q < oracle.loops.size(); q++) {
            for (int p = 0; p <= q; p++) {
                checks.due(story + " allowed " + p + " to " + q, oracle.allowed(p, q), fuser.isAllowed(p, q));
                checks.due(story + " hits " + p + " to " + q, oracle.hitDistances(p, q).size(), fuser.hits(p, q));
            }
        }
        // In each order, for an answer must not depend on what was asked before.
        for (int n = 0; n < 5; n++) {
            compareArrangement(story, fuser, below(3), oracle);
        }
    }

    private static void compareArrangement(String story, LoopFuser fuser, int arrangement, Oracle oracle) {
        String name = story + " arrangement " + arrangement;
        List<Integer> sizes = oracle.sizes(arrangement);
        checks.due(name + " groups", sizes.size(), fuser.groupCount(arrangement));
        List<Integer> distances = new ArrayList<>();
        int reads = 0;
        int first = 0;
        for (int number = 0; number < sizes.size(); number++) {
            int last = first + sizes.get(number) - 1;
            compareGroup(name, fuser, arrangement, number, first, last, oracle);
            distances.addAll(oracle.hitDistances(first, last));
            for (int n = first; n <= last; n++) {
                Oracle.Loop loop = oracle.loops.get(n);
                reads += (loop.last - loop.first + 1) * (loop.refs.size() - loop.targets.size());
            }
            first = last + 1;
        }
        int farthest = 0;
        for (int distance : distances) {
            farthest = Math.max(farthest, distance);
        }
        checks.due(name + " reads", reads, fuser.reads(arrangement, 0));
        checks.due(name + " hits", distances.size(), fuser.reads(arrangement, 1));
        checks.due(name + " greatest distance", farthest, fuser.reads(arrangement, 2));
        compareRun(name, fuser, arrangement, oracle);
    }

    private static void compareRun(String name, LoopFuser fuser, int arrangement, Oracle oracle) {
        int[][] cells = oracle.run(arrangement);
        int[][] initial = oracle.initial();
        int h = 7;
        int changed = 0;
        for (int array = 0; array < 5; array++) {
            for (int cell = -9; cell <= 39; cell++) {
                h = 31 * h + cells[array][cell + 9];
                changed += cells[array][cell + 9] == initial[array][cell + 9] ? 0 : 1;
            }
        }
        checks.due(name + " run", h, fuser.run(arrangement));
        checks.due(name + " changed", changed, fuser.changed(arrangement));
        int array = below(5);
        int cell = below(49) - 9;
        checks.due(name + " cell", cells[array][cell + 9], fuser.cell(arrangement, array, cell));
        // A fused order must do what the original one does, or the shifts would be wrong.
        checks.due(name + " against the original order", fuser.run(0), fuser.run(arrangement));
    }

    private static void compareGroup(String name, LoopFuser fuser, int arrangement, int number,
            int first, int last, Oracle oracle) {
        String story = name + " group " + number;
        int[] shifts = oracle.shifts(first, last);
        int[] steps = {1000, -1000, -1000, 1000};
        for (int n = first; n <= last; n++) {
            Oracle.Loop loop = oracle.loops.get(n);
            int begin = loop.first + shifts[n - first];
            int end = loop.last + shifts[n - first];
            checks.due(story + " group of " + n, number, fuser.groupOf(arrangement, n));
            checks.due(story + " shift of " + n, shifts[n - first], fuser.shift(arrangement, n));
            steps = new int[] {Math.min(steps[0], begin), Math.max(steps[1], end), Math.max(steps[2], begin),
                    Math.min(steps[3], end)};
        }
        checks.due(story + " carried", oracle.carried(first, last), fuser.carried(arrangement, number));
        boolean empty = steps[2] > steps[3];
        for (int what = 0; what < 4; what++) {
            int asked = what;
            if (empty && what > 1) {
                checks.fails(story + " step " + what, NoSuchElementException.class,
                        () -> fuser.step(arrangement, number, asked));
            } else {
                checks.due(story + " step " + what, steps[what], fuser.step(arrangement, number, what));
            }
        }
        for (int n = first; n <= last; n++) {
            int before = 0;
            int after = 0;
            for (int i = oracle.loops.get(n).first; i <= oracle.loops.get(n).last; i++) {
                int time = i + shifts[n - first];
                before += empty || time < steps[2] ? 1 : 0;
                after += !empty && time > steps[3] ? 1 : 0;
            }
            checks.due(story + " peeled before of " + n, before, fuser.peeled(arrangement, n, 0));
            checks.due(story + " peeled after of " + n, after, fuser.peeled(arrangement, n, 1));
        }
    }
}
