import java.lang.management.ManagementFactory;
import java.lang.reflect.Field;
import java.lang.reflect.InvocationTargetException;
import java.lang.reflect.Method;
import java.lang.reflect.Modifier;
import java.util.Arrays;
import java.util.Comparator;
import java.util.List;
import java.util.Random;
import java.util.TreeSet;

/** The face of the class, calls with wild arguments in any state, and the room that calls take. */
final class FaceTest {
    private static final Checks checks = new Checks();
    private static final int CALLS = 512;
    private static final List<String> FACE = List.of(
            "append(int):int", "bound(int,int):int", "carried(int,int):int", "cell(int,int,int):int",
            "changed(int):int", "dependence(int,int,int,int):int", "dependenceCount(int,int):int",
            "faultPosition():int", "groupCount(int):int", "groupOf(int,int):int", "height(int,int):int",
            "hits(int,int):int", "isAllowed(int,int):boolean", "loopCount():int", "operators(int,int,int):int",
            "peeled(int,int,int):int", "read():int", "reads(int,int):int", "reference(int,int,int):int",
            "referenceCount(int):int", "removeLoop(int):int", "required(int,int):int", "restore():void",
            "run(int):int", "save():void", "setBarrier(int,boolean):boolean", "setBound(int,int,int):int",
            "setOption(int,int):int", "shift(int,int):int", "statementCount(int):int", "step(int,int,int):int",
            "value(int,int,int):int");

    public static void main(String[] args) throws Exception {
        faceIsTheDocuments();
        for (int seed = 0; seed < 400; seed++) {
            wildCalls(new Random(seed));
        }
        dearestCallsTakeLittleRoom();
        checks.finish();
    }

    private static void faceIsTheDocuments() {
        checks.due("public final class", true, Modifier.isFinal(LoopFuser.class.getModifiers())
                && Modifier.isPublic(LoopFuser.class.getModifiers()));
        TreeSet<String> open = new TreeSet<>();
        TreeSet<String> names = new TreeSet<>();
        for (Method method : publicMethods()) {
            StringBuilder types = new StringBuilder();
            for (Class<?> type : method.getParameterTypes()) {
                types.append(types.length() == 0 ? "" : ",").append(type.getSimpleName());
            }
            open.add(method.getName() + "(" + types + "):" + method.getReturnType().getSimpleName());
            names.add(method.getName());
        }
        checks.due("the public methods are those of the document: " + open, true, open.equals(new TreeSet<>(FACE)));
        for (Method method : LoopFuser.class.getDeclaredMethods()) {
            boolean isPublic = Modifier.isPublic(method.getModifiers());
            checks.due(method + " is public or private", true, isPublic || Modifier.isPrivate(method.getModifiers()));
            checks.due(method + " bears no public name", true, isPublic || !names.contains(method.getName()));
        }
        for (Field field : LoopFuser.class.getDeclaredFields()) {
            checks.due(field + " is private", true, Modifier.isPrivate(field.getModifiers()));
            checks.due(field + " is final where static", true,
                    !Modifier.isStatic(field.getModifiers()) || Modifier.isFinal(field.getModifiers()));
        }
        checks.due("constructors", 1, LoopFuser.class.getDeclaredConstructors().length);
    }

    private static Method[] publicMethods() {
        Method[] methods = Arrays.stream(LoopFuser.class.getDeclaredMethods())
                .filter(method -> Modifier.isPublic(method.getModifiers())).toArray(Method[]::new);
        Arrays.sort(methods, Comparator.comparing(Method::getName));
        return methods;
    }

    /** No call may throw another exception than its own, and a refused call must leave all as it was. */
    private static void wildCalls(Random random) throws Exception {
        LoopFuser fuser = new LoopFuser();
        Method[] methods = publicMethods();
        int calls = 0;
        while (calls < CALLS) {
            if (random.nextInt(12) == 0) {
                String text = someText(random);
                int room = 120 - fuser.append(0);
                if (text.length() <= room) {
                    Checks.type(fuser, text);
                }
                calls += 1 + (text.length() + 3) / 4;
            }
            Method method = methods[random.nextInt(methods.length)];
            call(fuser, method, arguments(method, random));
            calls++;
        }
    }

    private static String someText(Random random) {
        String[] parts = {"for(", "0,9){", "5,30){", "12,12){", "a[i]=", "b[i+3]=", "c[i-9]=", "a[i-1]", "b[i+9]",
            "+", "-", "*", "(", ")", "i", "7", ";", "}", "d[i]=a[i]*2}", "for(0,30){a[i]=b[i]+1}", "e[i]=e[i-1]}",
            "for(3,20){b[i-2]=a[i+4]*(b[i]-c[i+1]);c[i]=b[i]}"};
        StringBuilder text = new StringBuilder(random.nextInt(3) == 0 ? "" : parts[19 + 2 * random.nextInt(2)]);
        for (int n = random.nextInt(4); n > 0; n--) {
            text.append(parts[random.nextInt(3) == 0 ? random.nextInt(parts.length) : 19]);
        }
        return text.substring(0, Math.min(text.length(), 100));
    }

    private static Object[] arguments(Method method, Random random) {
        Object[] arguments = new Object[method.getParameterCount()];
        boolean wild = random.nextInt(6) == 0;
        for (int n = 0; n < arguments.length; n++) {
            int number = random.nextInt(wild ? 60 : 4) - (wild ? 20 : 0);
            int[] extremes = {Integer.MIN_VALUE, Integer.MAX_VALUE, -1, random.nextInt()};
            number = random.nextInt(20) == 0 ? extremes[random.nextInt(4)] : number;
            boolean isBoolean = method.getParameterTypes()[n] == boolean.class;
            arguments[n] = isBoolean ? (Object) (number % 2 == 0) : (Object) number;
        }
        return arguments;
    }

    private static void call(LoopFuser fuser, Method method, Object[] arguments) throws Exception {
        String name = method.getName() + Arrays.toString(arguments);
        String before = state(fuser);
        try {
            method.invoke(fuser, arguments);
            checks.due(name, true, true);
        } catch (InvocationTargetException e) {
            Class<?> thrown = e.getCause().getClass();
            checks.due(name + " may throw " + e.getCause(), true,
                    Arrays.asList(method.getExceptionTypes()).contains(thrown));
            checks.due(name + " throws itself", true, e.getCause().getStackTrace()[0].getClassName().equals("LoopFuser"));
            checks.due(name + " leaves the state", true,
                    method.getName().equals("read") || before.equals(state(fuser)));
        }
    }

    /** What can be seen without changing anything, loops and options left out that the runs show. */
    private static String state(LoopFuser fuser) {
        StringBuilder state = new StringBuilder();
        state.append(fuser.append(0)).append(' ').append(fuser.faultPosition()).append(' ').append(fuser.loopCount());
        for (int arrangement = 0; arrangement < 3; arrangement++) {
            state.append(' ').append(fuser.groupCount(arrangement)).append(' ').append(fuser.run(arrangement));
            state.append(' ').append(fuser.reads(arrangement, 1));
        }
        return state.toString();
    }

    /** The room of one run: 7.3 million fields and elements; an int takes 4 bytes. */
    private static void dearestCallsTakeLittleRoom() {
        com.sun.management.ThreadMXBean threads =
                (com.sun.management.ThreadMXBean) ManagementFactory.getThreadMXBean();
        long thread = Thread.currentThread().getId();
        dearestCalls();
        long before = threads.getThreadAllocatedBytes(thread);
        dearestCalls();
        long bytes = threads.getThreadAllocatedBytes(thread) - before;
        System.out.println("512 of the dearest calls took " + bytes + " bytes");
        checks.due("bytes taken are below a tenth of the room", true, bytes < 7_300_000L * 4 / 10);
    }

    private static void dearestCalls() {
        LoopFuser fuser = new LoopFuser();
        for (int n = 0; n < 150; n++) {
            fuser.append(Checks.packed("for("));
            try {
                fuser.read();
            } catch (IllegalArgumentException e) {
                checks.due("fault position", 4, fuser.faultPosition());
            }
        }
        for (int n = 0; n < 3; n++) {
            Checks.add(fuser, "for(0,30){a[i]=a[i+1]+b[i-1];b[i+2]=a[i]+c[i]}for(0,30){c[i]=a[i+1]*b[i-1]}");
        }
        for (int n = 0; n < 18; n++) {
            fuser.setOption(2, n);
            fuser.run(2);
            fuser.reads(2, 1);
            fuser.hits(0, 5);
            fuser.save();
            fuser.restore();
        }
    }
}
