import java.io.ByteArrayOutputStream;
import java.io.IOException;
import java.io.PrintStream;
import java.lang.reflect.Method;
import java.lang.reflect.Modifier;
import java.net.URL;
import java.net.URLClassLoader;
import java.nio.file.Files;
import java.nio.file.Path;
import java.util.ArrayList;
import java.util.List;
import java.util.regex.Matcher;
import java.util.regex.Pattern;
import javax.tools.ToolProvider;

/** What README.md shows: its example answers what stands behind each line, and each call and test is named. */
final class ReadmeTest {
    private static final Checks checks = new Checks();
    private static final Pattern EXAMPLE = Pattern.compile("```java\n(.*?)```", Pattern.DOTALL);
    private static final Pattern ANSWER = Pattern.compile("show\\(.*\\); +// (-?\\d+)\\b");

    public static void main(String[] args) throws Exception {
        Path root = Path.of(args.length > 0 ? args[0] : ".");
        String page = Files.readString(root.resolve("README.md"));
        namesEachCall(page);
        namesEachTest(root.resolve("src/test/java"), page);
        Matcher matcher = EXAMPLE.matcher(page);
        checks.due("there is an example", true, matcher.find());
        String example = matcher.group(1);
        List<String> due = new ArrayList<>();
        Matcher answers = ANSWER.matcher(example);
        while (answers.find()) {
            due.add(answers.group(1));
        }
        checks.due("the example shows answers", true, due.size() > 10);
        if (ToolProvider.getSystemJavaCompiler() == null) {
            System.out.println("NOT LOOKED AT: this java has no compiler inside, so the example can't be run");
        } else {
            List<String> got = output(root.resolve("build/readme"), example);
            checks.due("the example answers " + got + ", due is " + due, true, due.equals(got));
        }
        checks.finish();
    }

    private static void namesEachCall(String page) {
        for (Method method : LoopFuser.class.getDeclaredMethods()) {
            if (Modifier.isPublic(method.getModifiers())) {
                Matcher matcher = Pattern.compile("`" + method.getName() + "[(`]").matcher(page);
                checks.due("README.md names " + method.getName(), true, matcher.find());
            }
        }
    }

    private static void namesEachTest(Path tests, String page) {
        String[] files = tests.toFile().list();
        checks.due("there are tests", true, files != null && files.length > 1);
        for (String file : files == null ? new String[0] : files) {
            String name = file.replace(".java", "");
            checks.due("README.md names " + name, true, !name.endsWith("Test") || page.contains("`" + name + "`"));
        }
    }

    /** The lines that the example prints. */
    private static List<String> output(Path place, String example) throws IOException, ReflectiveOperationException {
        Files.createDirectories(place);
        Path source = Files.writeString(place.resolve("Example.java"), example);
        int failed = ToolProvider.getSystemJavaCompiler().run(null, null, null, "-cp",
                System.getProperty("java.class.path"), "-d", place.toString(), source.toString());
        checks.due("the example compiles", 0, failed);
        PrintStream before = System.out;
        ByteArrayOutputStream printed = new ByteArrayOutputStream();
        try (URLClassLoader loader = new URLClassLoader(new URL[] {place.toUri().toURL()})) {
            System.setOut(new PrintStream(printed, true));
            loader.loadClass("Example").getMethod("main", String[].class).invoke(null, (Object) new String[0]);
        } finally {
            System.setOut(before);
        }
        return printed.toString().lines().toList();
    }
}
