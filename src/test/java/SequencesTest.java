import java.lang.reflect.InvocationTargetException;
import java.lang.reflect.Method;
import java.lang.reflect.Modifier;
import java.util.Arrays;
import java.util.Comparator;
import java.util.Random;

/** Sequences of 512 calls with arguments right and wrong, each answer or exception compared with that of the model. */
final class SequencesTest {
    private static final Checks checks = new Checks();
    private static final int SEQUENCES = 40;
    private static final int CALLS = 512;
    private static final String[] CHANGES = {"append", "read", "removeLoop", "setBound", "setOption", "setBarrier", "save",
        "restore"};

    private final Random random;
    private final LoopFuser fuser = new LoopFuser();
    private final Model model = new Model();
    private final Method[] methods;
    private final String name;
    private String pending = "";
    private int count = 0;

    private SequencesTest(int seed) {
        random = new Random(seed);
        name = "sequence " + seed;
        methods = Arrays.stream(LoopFuser.class.getDeclaredMethods())
                .filter(method -> Modifier.isPublic(method.getModifiers()))
                .sorted(Comparator.comparing(Method::getName)).toArray(Method[]::new);
    }

    public static void main(String[] args) throws ReflectiveOperationException {
        for (int seed = 0; seed < SEQUENCES; seed++) {
            new SequencesTest(seed).go();
        }
        checks.finish();
    }

    private void go() throws ReflectiveOperationException {
        while (count < CALLS) {
            if (!pending.isEmpty()) {
                int length = Math.min(pending.length(), 1 + random.nextInt(4));
                int packed = Checks.packed(pending.substring(0, length));
                pending = pending.substring(length);
                compare(method("append"), length == 1 ? packed << 8 * random.nextInt(4) : packed);
                if (pending.isEmpty()) {
                    compare(method("read"));
                }
            } else if (random.nextInt(16) == 0) {
                pending = text();
            } else {
                Method method = methods[random.nextInt(methods.length)];
                // A change now and then, so that many answers come from the same state.
                if (!Arrays.asList(CHANGES).contains(method.getName()) || random.nextInt(2) == 0) {
                    compare(method, arguments(method));
                }
            }
        }
    }

    private Method method(String called) {
        return Arrays.stream(methods).filter(method -> method.getName().equals(called)).findFirst().orElseThrow();
    }

    private void compare(Method method, int... a) throws ReflectiveOperationException {
        count++;
        Object[] arguments = new Object[a.length];
        for (int n = 0; n < a.length; n++) {
            boolean isBoolean = method.getParameterTypes()[n] == boolean.class;
            arguments[n] = isBoolean ? (Object) (a[n] != 0) : (Object) a[n];
        }
        String due = due(method, a);
        String got = got(method, arguments);
        checks.due(name + ", call " + count + ": " + method.getName() + Arrays.toString(arguments) + " answered " + got
                + ", due is " + due, true, due.equals(got));
    }

    private String due(Method method, int... a) {
        try {
            return String.valueOf(model.call(method.getName(), a));
        } catch (RuntimeException e) {
            return e.getClass().getSimpleName();
        }
    }

    private String got(Method method, Object[] arguments) throws ReflectiveOperationException {
        try {
            Object answer = method.invoke(fuser, arguments);
            return answer == null ? "0" : answer instanceof Boolean ? (Boolean) answer ? "1" : "0" : answer.toString();
        } catch (InvocationTargetException e) {
            return e.getCause().getClass().getSimpleName();
        }
    }

    /** Mostly small numbers, for which most things are there; of each argument some are wrong. */
    private int[] arguments(Method method) {
        int[] a = new int[method.getParameterCount()];
        int loops = Math.max(1, fuser.loopCount());
        for (int n = 0; n < a.length; n++) {
            int kind = random.nextInt(24);
            a[n] = kind == 0 ? -1 : kind == 1 ? random.nextInt(50) - 10 : kind == 2 ? random.nextInt() : random.nextInt(3);
            a[n] = kind > 18 ? random.nextInt(loops) : a[n];
        }
        if (method.getName().equals("value") || method.getName().equals("setBound")) {
            boolean there = a[0] >= 0 && a[0] < fuser.loopCount();
            a[1] = random.nextInt(8) == 0 ? a[1] : random.nextInt(2);
            a[2] = there ? fuser.bound(a[0], random.nextInt(2)) + random.nextInt(9) - 4 : a[2];
        }
        if (method.getName().equals("cell")) {
            a[2] = random.nextInt(60) - 15;
        }
        boolean pair = method.getName().startsWith("depend") || method.getName().equals("required");
        if ((pair || method.getName().equals("hits") || method.getName().equals("isAllowed")) && random.nextInt(6) > 0) {
            a[1] = random.nextInt(loops + 1);
            a[0] = random.nextInt(a[1] + 1);
        }
        return a;
    }

    private String text() {
        StringBuilder text = new StringBuilder();
        boolean large = random.nextInt(10) == 0;
        for (int n = large ? 7 : 1 + random.nextInt(3); n > 0; n--) {
            int first = random.nextInt(random.nextInt(2) == 0 ? 4 : 22);
            text.append("for(").append(first).append(',').append(first + random.nextInt(9)).append("){");
            text.append(statement()).append(random.nextInt(3) == 0 ? ";" + statement() : "").append('}');
        }
        if (random.nextInt(4) == 0) {
            text.setCharAt(random.nextInt(text.length()), "for(,){};=+-*[i]abe019".charAt(random.nextInt(22)));
        }
        return text.substring(0, Math.min(text.length(), large ? 130 : model.room()));
    }

    private String statement() {
        String factor = random.nextInt(4) == 0 ? "(i-" + random.nextInt(100) + ")*2" : reference();
        return reference() + "=" + reference() + "+-*".charAt(random.nextInt(3)) + factor;
    }

    private String reference() {
        return "abcde".charAt(random.nextInt(random.nextInt(2) == 0 ? 2 : 5)) + "[i"
                + (random.nextInt(3) == 0 ? "" : "+-".charAt(random.nextInt(2)) + "" + random.nextInt(5)) + "]";
    }
}
