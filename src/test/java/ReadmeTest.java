import java.io.ByteArrayOutputStream;
import java.io.IOException;
import java.io.PrintStream;
import java.lang.reflect.InvocationTargetException;
import java.lang.reflect.Method;
import java.lang.reflect.Modifier;
import java.net.URL;
import java.net.URLClassLoader;
import java.nio.file.Files;
import java.nio.file.Path;
import java.util.ArrayList;
import java.util.Arrays;
import java.util.LinkedHashMap;
import java.util.List;
import java.util.Map;
import java.util.TreeSet;
import java.util.regex.Matcher;
import java.util.regex.Pattern;
import javax.tools.ToolProvider;

/** README.md holds: its example prints what stands there, its tables tell the calls, exceptions and tests that there are. */
final class ReadmeTest {
    private static final Path README = Path.of("README.md");
    private static final Path FACE = Path.of("src/main/java/WillHouse.java");
    private static final Path TESTS = Path.of("src/test/java");
    private static final Path EXAMPLE = Path.of("build/readme");
    private static final Map<String, Class<?>> EXCEPTIONS = Map.of("Index", IndexOutOfBoundsException.class,
            "Argument", IllegalArgumentException.class, "Element", java.util.NoSuchElementException.class,
            "State", IllegalStateException.class);
    // wrong for each number that can be wrong at all
    private static final int WRONG = -5;

    private final String readme;
    private final Map<String, Method> face = new LinkedHashMap<>();

    private ReadmeTest() throws IOException {
        readme = Files.readString(README);
        for (Method method : WillHouse.class.getDeclaredMethods()) {
            if (Modifier.isPublic(method.getModifiers())) {
                face.put(method.getName(), method);
            }
        }
    }

    public static void main(String[] args) throws Exception {
        ReadmeTest test = new ReadmeTest();
        test.examplePrintsWhatStandsThere();
        test.exceptionsAreNamed();
        test.callsAreThoseOfTheFace();
        test.testsAreThoseThatThereAre();
        Checks.close("ReadmeTest");
    }

    private String block(String kind) {
        Matcher block = Pattern.compile("```" + kind + "\n(.*?)```", Pattern.DOTALL).matcher(readme);
        return block.find() ? block.group(1) : "";
    }

    private void examplePrintsWhatStandsThere() throws Exception {
        Files.createDirectories(EXAMPLE);
        Path file = EXAMPLE.resolve("Example.java");
        Files.writeString(file, block("java"));
        int failed = ToolProvider.getSystemJavaCompiler().run(null, null, null, "-Xlint:all", "-Werror", "-d",
                EXAMPLE.toString(), file.toString(), FACE.toString());
        Checks.same("javac of the example", failed, 0);
        PrintStream out = System.out;
        ByteArrayOutputStream printed = new ByteArrayOutputStream();
        try (URLClassLoader loader = new URLClassLoader(new URL[] {EXAMPLE.toUri().toURL()}, null)) {
            System.setOut(new PrintStream(printed));
            loader.loadClass("Example").getMethod("main", String[].class).invoke(null, (Object) new String[0]);
        } finally {
            System.setOut(out);
        }
        Checks.same("the example", printed.toString().replace("\r", ""), block("text"));
    }

    private void exceptionsAreNamed() {
        EXCEPTIONS.forEach((word, exception) -> Checks.yes(word + " is told",
                readme.contains("| " + word + " | `" + exception.getSimpleName() + "` |")));
    }

    // ---- the table of calls

    private void callsAreThoseOfTheFace() throws IOException, ReflectiveOperationException {
        List<String> due = new ArrayList<>();
        Matcher told = Pattern.compile("    public \\w+ (\\w+)\\(([^)]*)\\)").matcher(Files.readString(FACE));
        while (told.find()) {
            due.add(told.group(1) + "(" + told.group(2).replaceAll("\\w+ (\\w+)", "$1") + ")");
        }
        List<String> got = new ArrayList<>();
        Matcher row = Pattern.compile("\n\\| `((\\w+)\\(([^)]*)\\))` \\| .* \\| (.*)\\|(?=\n)").matcher(readme);
        while (row.find()) {
            got.add(row.group(1));
            Method method = face.get(row.group(2));
            if (method != null) {
                throwsWhatIsTold(method, List.of(row.group(3).split(", ")), row.group(4).trim());
            }
        }
        Checks.same("calls", got.toString(), due.toString());
    }

    private static void throwsWhatIsTold(Method method, List<String> parameters, String told)
            throws ReflectiveOperationException {
        List<Class<?>> exceptions = new ArrayList<>();
        for (String part : told.isEmpty() ? new String[0] : told.split("; ")) {
            Class<?> exception = EXCEPTIONS.get(part.substring(0, Math.max(0, part.indexOf(':'))));
            Checks.yes(method.getName() + ", known: " + part, exception != null);
            exceptions.add(exception);
            tryBounds(method, parameters, part, exception);
        }
        Checks.same("exceptions of " + method.getName(), exceptions.toString(),
                Arrays.asList(method.getExceptionTypes()).toString());
        int[] allWrong = new int[parameters.size()];
        Arrays.fill(allWrong, WRONG);
        String first = exceptions.isEmpty() ? "nothing" : exceptions.get(0).getName();
        Checks.same(method.getName() + " with all wrong throws", thrown(method, allWrong), first);
    }

    /** "x is not 3 to 7": 2 and 8 are thrown at so, 3 and 7 are not. */
    private static void tryBounds(Method method, List<String> parameters, String part, Class<?> exception)
            throws ReflectiveOperationException {
        Matcher bounds = Pattern.compile("(\\w+) is (?:not|neither NONE nor) (\\d+) to (\\d+)").matcher(part);
        while (bounds.find()) {
            int at = parameters.indexOf(bounds.group(1));
            Checks.yes(part + " of " + method.getName() + " names a parameter", at >= 0);
            int least = Integer.parseInt(bounds.group(2)) - (part.contains("NONE") ? 1 : 0);
            int most = Integer.parseInt(bounds.group(3));
            for (int value : new int[] {least - 1, least, most, most + 1}) {
                int[] arguments = rightOnes(method);
                arguments[at] = value;
                boolean wrong = value < least || value > most;
                Checks.same(method.getName() + Arrays.toString(arguments) + " throws", thrown(method, arguments),
                        wrong ? exception.getName() : "nothing");
            }
        }
    }

    /** Numbers that are right for the house below: 0, and where an amount stands behind it, 1. */
    private static int[] rightOnes(Method method) {
        int[] arguments = new int[method.getParameterCount()];
        if (List.of("sell", "change", "lose").contains(method.getName())) {
            arguments[1] = 1;
        }
        return arguments;
    }

    private static String thrown(Method method, int[] numbers) throws ReflectiveOperationException {
        WillHouse house = Checks.house("thing t 5;child c;give t to c;");
        if (method.getName().equals("read")) {
            Checks.feed(house, "?");
        }
        Class<?>[] types = method.getParameterTypes();
        Object[] arguments = new Object[types.length];
        for (int i = 0; i < types.length; i++) {
            arguments[i] = types[i] == boolean.class ? (Object) true : (Object) numbers[i];
        }
        try {
            method.invoke(house, arguments);
            return "nothing";
        } catch (InvocationTargetException thrown) {
            return thrown.getCause().getClass().getName();
        }
    }

    // ---- the table of tests

    private void testsAreThoseThatThereAre() throws IOException {
        TreeSet<String> due = new TreeSet<>();
        try (var files = Files.list(TESTS)) {
            files.map(file -> file.getFileName().toString()).filter(name -> name.endsWith("Test.java"))
                    .forEach(name -> due.add(name.replace(".java", "")));
        }
        TreeSet<String> got = new TreeSet<>();
        Matcher row = Pattern.compile("\n\\| `(\\w+Test)` \\|").matcher(readme);
        while (row.find()) {
            got.add(row.group(1));
        }
        Checks.same("tests", got.toString(), due.toString());
    }
}
