import java.util.ArrayList;
import java.util.HashMap;
import java.util.List;
import java.util.Map;
import java.util.regex.Matcher;
import java.util.regex.Pattern;

/**
 * A second reading of the document, by other means than the class: texts by regular expressions,
 * expressions as strings, dependences and hits by looking at all iterations, arrangement 2 by trying
 * all divisions. It answers no wrong arguments.
 */
final class Oracle {
    static final class Ref {
        final int array;
        final int offset;
        final boolean write;
        final int statement;

        Ref(String text, boolean write, int statement) {
            this.array = text.charAt(0) - 'a';
            this.offset = text.length() == 4 ? 0 : Integer.parseInt(text.substring(3, text.length() - 1));
            this.write = write;
            this.statement = statement;
        }
    }

    static final class Loop {
        int first;
        int last;
        boolean barrier;
        final List<String> expressions = new ArrayList<>();
        final List<Ref> targets = new ArrayList<>();
        final List<Ref> refs = new ArrayList<>();
    }

    /** A reference made in the execution of a group. */
    private record Event(int time, int array, int cell, boolean write) {
    }

    private static final String NUMBER = "(?:0|[1-9][0-9]?)";
    private static final String REF = "[a-e]\\[i(?:[+-][0-9])?\\]";
    private static final Pattern REFS = Pattern.compile(REF);
    private static final Pattern TEXT = textPattern();

    final List<Loop> loops = new ArrayList<>();
    int limit = 9;
    int window = 3;
    int seed = 1;

    private static Pattern textPattern() {
        String factor = "(?:" + NUMBER + "|i|" + REF + ")";
        String sum = "";
        for (int open = 0; open <= 3; open++) {
            String operand = open == 0 ? factor : "(?:" + NUMBER + "|i|" + REF + "|\\(" + sum + "\\))";
            String product = operand + "(?:\\*" + operand + ")*";
            sum = "(?:" + product + "(?:[+-]" + product + ")*)";
        }
        String statement = REF + "=" + sum;
        String loop = "for\\(" + NUMBER + "," + NUMBER + "\\)\\{" + statement + "(?:;" + statement + "){0,3}\\}";
        return Pattern.compile("(?:" + loop + ")+");
    }

    /** Whether a text can be continued to one of the grammar, but for references and bounds. */
    private static boolean viable(String text) {
        Matcher matcher = TEXT.matcher(text);
        return matcher.matches() || matcher.hitEnd();
    }

    /** The fault position of a text, or -1. */
    static int faultOf(String text) {
        int fault = TEXT.matcher(text).matches() ? -1 : text.length();
        for (int end = 1; end <= text.length(); end++) {
            if (!viable(text.substring(0, end))) {
                fault = end - 1;
                break;
            }
        }
        int right = fault < 0 ? text.length() : fault;
        int bound = boundFault(text.substring(0, right));
        int sixth = sixthReference(text);
        if (bound >= 0 && (fault < 0 || bound < fault)) {
            fault = bound;
        }
        if (sixth >= 0 && (fault < 0 || sixth < fault)) {
            fault = sixth;
        }
        return fault;
    }

    private static int boundFault(String viable) {
        Matcher matcher = Pattern.compile("for\\((" + NUMBER + ")(?:,(" + NUMBER + ")?)?").matcher(viable);
        while (matcher.find()) {
            int first = Integer.parseInt(matcher.group(1));
            if (first > 30) {
                return matcher.start(1);
            }
            if (matcher.group(2) != null) {
                int last = Integer.parseInt(matcher.group(2));
                if (last > 30 || last < first) {
                    return matcher.start(2);
                }
            }
        }
        return -1;
    }

    private static int sixthReference(String text) {
        int count = 0;
        boolean right = false;
        for (int at = 0; at < text.length(); at++) {
            char sign = text.charAt(at);
            if (sign == '=') {
                right = true;
                count = 0;
            } else if (sign == ';' || sign == '}') {
                right = false;
            } else if (right && sign >= 'a' && sign <= 'e') {
                count++;
                if (count > 5) {
                    return at;
                }
            }
        }
        return -1;
    }

    /** The loops of a text without a fault. */
    static List<Loop> loopsOf(String text) {
        List<Loop> result = new ArrayList<>();
        for (String part : text.split("\\}")) {
            Loop loop = new Loop();
            String[] head = part.substring(4, part.indexOf(')')).split(",");
            loop.first = Integer.parseInt(head[0]);
            loop.last = Integer.parseInt(head[1]);
            for (String statement : part.substring(part.indexOf('{') + 1).split(";")) {
                String[] sides = statement.split("=");
                Matcher reads = REFS.matcher(sides[1]);
                while (reads.find()) {
                    loop.refs.add(new Ref(reads.group(), false, loop.targets.size()));
                }
                Ref target = new Ref(sides[0], true, loop.targets.size());
                loop.refs.add(target);
                loop.targets.add(target);
                loop.expressions.add(sides[1]);
            }
            result.add(loop);
        }
        return result;
    }

    /** Where the operator stands that is applied last, or -1. */
    private static int lastOperator(String expression) {
        int depth = 0;
        int product = -1;
        for (int at = expression.length() - 1; at >= 0; at--) {
            char sign = expression.charAt(at);
            depth += sign == ')' || sign == ']' ? 1 : sign == '(' || sign == '[' ? -1 : 0;
            if (depth == 0 && (sign == '+' || sign == '-')) {
                return at;
            }
            if (depth == 0 && sign == '*' && product < 0) {
                product = at;
            }
        }
        return product;
    }

    static int height(String expression) {
        int at = lastOperator(expression);
        if (at >= 0) {
            return 1 + Math.max(height(expression.substring(0, at)), height(expression.substring(at + 1)));
        }
        return expression.charAt(0) == '(' ? height(expression.substring(1, expression.length() - 1)) : 1;
    }

    static int operators(String expression, char operator) {
        String bare = REFS.matcher(expression).replaceAll("1");
        return (int) bare.chars().filter(sign -> sign == operator).count();
    }

    static int value(String expression, int i, int[][] cells) {
        int at = lastOperator(expression);
        if (at >= 0) {
            int left = value(expression.substring(0, at), i, cells);
            int right = value(expression.substring(at + 1), i, cells);
            char operator = expression.charAt(at);
            return operator == '+' ? left + right : operator == '-' ? left - right : left * right;
        }
        if (expression.equals("i")) {
            return i;
        }
        if (expression.charAt(0) == '(') {
            return value(expression.substring(1, expression.length() - 1), i, cells);
        }
        if (Character.isDigit(expression.charAt(0))) {
            return Integer.parseInt(expression);
        }
        Ref ref = new Ref(expression, false, 0);
        return cells[ref.array][i + ref.offset + 9];
    }

    int[][] initial() {
        int[][] cells = new int[5][49];
        for (int x = 0; x < 5; x++) {
            for (int k = -9; k <= 39; k++) {
                cells[x][k + 9] = (x + 1) * seed + 7 * k;
            }
        }
        return cells;
    }

    /** The dependences as array, kind and needed shift. */
    List<int[]> dependences(int p, int q) {
        List<int[]> result = new ArrayList<>();
        for (Ref u : loops.get(p).refs) {
            for (Ref v : loops.get(q).refs) {
                if (u.array == v.array && (u.write || v.write) && common(loops.get(p), u, loops.get(q), v)) {
                    int kind = u.write && v.write ? 2 : v.write ? 1 : 0;
                    result.add(new int[] {u.array, kind, v.offset - u.offset});
                }
            }
        }
        return result;
    }

    private static boolean common(Loop p, Ref u, Loop q, Ref v) {
        for (int i = p.first; i <= p.last; i++) {
            for (int j = q.first; j <= q.last; j++) {
                if (i + u.offset == j + v.offset) {
                    return true;
                }
            }
        }
        return false;
    }

    /** The shifts of the loops from first to last. */
    int[] shifts(int first, int last) {
        int[] shifts = new int[last - first + 1];
        for (int q = first + 1; q <= last; q++) {
            for (int p = first; p < q; p++) {
                for (int[] dependence : dependences(p, q)) {
                    shifts[q - first] = Math.max(shifts[q - first], shifts[p - first] + dependence[2]);
                }
            }
        }
        return shifts;
    }

    boolean allowed(int first, int last) {
        int[] shifts = shifts(first, last);
        for (int n = first + 1; n <= last; n++) {
            if (loops.get(n).barrier || shifts[n - first] > limit) {
                return false;
            }
        }
        return true;
    }

    /** The group sizes of an arrangement. */
    List<Integer> sizes(int arrangement) {
        List<Integer> result = new ArrayList<>();
        if (arrangement == 2) {
            int best = -1;
            for (List<Integer> sizes : divisions(loops.size())) {
                int hits = hitsOf(sizes);
                boolean better = hits > best;
                if (hits == best) {
                    better = sizes.size() < result.size() || sizes.size() == result.size() && greater(sizes, result);
                }
                if (better) {
                    best = hits;
                    result = sizes;
                }
            }
            return result;
        }
        int first = 0;
        while (first < loops.size()) {
            int size = 1;
            for (int n = 2; arrangement == 1 && first + n <= loops.size(); n++) {
                size = allowed(first, first + n - 1) ? n : size;
            }
            result.add(size);
            first += size;
        }
        return result;
    }

    private static List<List<Integer>> divisions(int count) {
        List<List<Integer>> result = new ArrayList<>();
        if (count == 0) {
            result.add(new ArrayList<>());
        }
        for (int size = 1; size <= count; size++) {
            for (List<Integer> rest : divisions(count - size)) {
                List<Integer> sizes = new ArrayList<>(rest);
                sizes.add(0, size);
                result.add(sizes);
            }
        }
        return result;
    }

    /** The sum of the hits of all groups, or -2 if one of them is not allowed. */
    private int hitsOf(List<Integer> sizes) {
        int sum = 0;
        int first = 0;
        for (int size : sizes) {
            if (!allowed(first, first + size - 1)) {
                return -2;
            }
            sum += hitDistances(first, first + size - 1).size();
            first += size;
        }
        return sum;
    }

    private static boolean greater(List<Integer> one, List<Integer> other) {
        for (int n = 0; n < one.size(); n++) {
            if (!one.get(n).equals(other.get(n))) {
                return one.get(n) > other.get(n);
            }
        }
        return false;
    }

    private List<Event> events(int first, int last) {
        List<Event> events = new ArrayList<>();
        int[] shifts = shifts(first, last);
        for (int time = 0; time <= 150; time++) {
            for (int n = first; n <= last; n++) {
                Loop loop = loops.get(n);
                int i = time - shifts[n - first];
                if (i >= loop.first && i <= loop.last) {
                    for (Ref ref : loop.refs) {
                        events.add(new Event(time, ref.array, i + ref.offset, ref.write));
                    }
                }
            }
        }
        return events;
    }

    /** The distances of the hits of a group. */
    List<Integer> hitDistances(int first, int last) {
        List<Integer> distances = new ArrayList<>();
        Map<Integer, Integer> latest = new HashMap<>();
        for (Event event : events(first, last)) {
            int key = event.array * 100 + event.cell;
            Integer before = latest.get(key);
            if (!event.write && before != null && event.time - before <= window) {
                distances.add(event.time - before);
            }
            latest.put(key, event.time);
        }
        return distances;
    }

    int carried(int first, int last) {
        int least = 0;
        List<Event> events = events(first, last);
        for (Event one : events) {
            for (Event other : events) {
                int distance = other.time - one.time;
                if (distance > 0 && one.array == other.array && one.cell == other.cell && (one.write || other.write)) {
                    least = least == 0 ? distance : Math.min(least, distance);
                }
            }
        }
        return least;
    }

    int[][] run(int arrangement) {
        int[][] cells = initial();
        int first = 0;
        for (int size : sizes(arrangement)) {
            int[] shifts = shifts(first, first + size - 1);
            for (int time = 0; time <= 150; time++) {
                for (int n = 0; n < size; n++) {
                    Loop loop = loops.get(first + n);
                    int i = time - shifts[n];
                    for (int s = 0; i >= loop.first && i <= loop.last && s < loop.targets.size(); s++) {
                        Ref target = loop.targets.get(s);
                        cells[target.array][i + target.offset + 9] = value(loop.expressions.get(s), i, cells);
                    }
                }
            }
            first += size;
        }
        return cells;
    }
}
