import java.io.ByteArrayOutputStream;
import java.io.IOException;
import java.io.OutputStream;
import java.io.PrintStream;
import java.io.StringWriter;
import java.lang.reflect.Method;
import java.net.URI;
import java.nio.file.Files;
import java.nio.file.Path;
import java.util.ArrayList;
import java.util.HashMap;
import java.util.List;
import java.util.Map;
import java.util.TreeSet;
import javax.tools.FileObject;
import javax.tools.ForwardingJavaFileManager;
import javax.tools.JavaCompiler;
import javax.tools.JavaFileManager;
import javax.tools.JavaFileObject;
import javax.tools.SimpleJavaFileObject;
import javax.tools.ToolProvider;

/**
 * Breaks the class by each break of breaks.txt and sees whether the test of the broken sentence fails. To be run by
 * .ci/breaks, behind .ci/run: it needs the tests compiled under build/own.
 */
final class Breaks {
    private static final Path SOURCE = Path.of("src/main/java/WillHouse.java");
    private static final Path LIST = Path.of("src/test/breaks/breaks.txt");
    private static final Path TESTS = Path.of("build/own");
    private static final long LONGEST_TEST = 20_000;

    /** In the source, behind "in", "is" is replaced by "put". */
    private static final class Break {
        String test = "";
        String in = "";
        String is = "";
        String put = "";
    }

    private static final Map<String, byte[]> CLASSES = new HashMap<>();
    private static PrintStream out;
    private static int bad;

    public static void main(String[] args) throws Exception {
        out = System.out;
        // what a test says of a broken class is no news
        System.setOut(new PrintStream(OutputStream.nullOutputStream()));
        readClasses();
        String source = Files.readString(SOURCE);
        List<Break> breaks = breaks();
        for (Break one : breaks) {
            tryOut(one, source);
        }
        tellTestsWithoutBreaks(breaks);
        out.println(breaks.size() + " breaks, of which " + bad + " are not noticed or cannot be tried");
        System.exit(bad == 0 ? 0 : 1);
    }

    private static void complain(String what, Break one) {
        bad++;
        out.println(what + ": " + one.test + "\n  is:  " + one.is + "\n  put: " + one.put);
    }

    private static List<Break> breaks() throws IOException {
        List<Break> all = new ArrayList<>();
        Break one = new Break();
        for (String line : Files.readAllLines(LIST)) {
            if (line.startsWith("in: ")) {
                one.in = line.substring(4);
            } else if (line.startsWith("is: ")) {
                one.is = line.substring(4);
            } else if (line.startsWith("put:")) {
                one.put = line.substring(4).trim();
            } else if (!line.isBlank() && !line.startsWith("#")) {
                one = new Break();
                one.test = line.trim();
                all.add(one);
            }
        }
        return all;
    }

    private static void tryOut(Break one, String source) throws Exception {
        int from = source.indexOf(one.in);
        int at = source.indexOf(one.is, from);
        boolean another = one.in.isEmpty() && source.indexOf(one.is, at + 1) >= 0;
        if (from < 0 || at < 0 || another) {
            complain(another ? "not once in the source" : "not in the source", one);
            return;
        }
        Map<String, byte[]> broken = compiled(source.substring(0, at) + one.put + source.substring(at + one.is.length()));
        if (broken.isEmpty()) {
            complain("does not compile", one);
        } else if (!fails(broken, one.test)) {
            complain("is not noticed", one);
        }
    }

    private static void tellTestsWithoutBreaks(List<Break> breaks) throws ReflectiveOperationException {
        TreeSet<String> broken = new TreeSet<>();
        breaks.forEach(one -> broken.add(one.test));
        Loader loader = new Loader(Map.of());
        for (String name : CLASSES.keySet().stream().filter(n -> n.endsWith("SentencesTest")).sorted().toList()) {
            for (Method test : loader.loadClass(name).getDeclaredMethods()) {
                boolean isSentence = test.getAnnotations().length > 0;
                if (isSentence && !broken.contains(name + "." + test.getName())) {
                    bad++;
                    out.println("no break for " + name + "." + test.getName());
                }
            }
        }
    }

    /** Runs one test by a broken class. */
    private static boolean fails(Map<String, byte[]> broken, String test) throws Exception {
        Loader loader = new Loader(broken);
        int dot = test.indexOf('.');
        Method method = loader.loadClass(test.substring(0, dot)).getDeclaredMethod(test.substring(dot + 1));
        Method failed = loader.loadClass("Checks").getDeclaredMethod("failed");
        method.setAccessible(true);
        failed.setAccessible(true);
        boolean[] passed = new boolean[1];
        Thread run = new Thread(() -> {
            try {
                method.invoke(null);
                passed[0] = (int) failed.invoke(null) == 0;
            } catch (ReflectiveOperationException thrown) {
                passed[0] = false;
            }
        });
        run.setDaemon(true);
        run.start();
        run.join(LONGEST_TEST);
        return !passed[0];
    }

    private static void readClasses() throws IOException {
        try (var files = Files.list(TESTS)) {
            for (Path file : files.toList()) {
                String name = file.getFileName().toString();
                if (name.endsWith(".class")) {
                    CLASSES.put(name.substring(0, name.length() - ".class".length()), Files.readAllBytes(file));
                }
            }
        }
    }

    /** The tests as they are, WillHouse as it is broken. */
    private static final class Loader extends ClassLoader {
        private final Map<String, byte[]> broken;

        Loader(Map<String, byte[]> broken) {
            super(ClassLoader.getPlatformClassLoader());
            this.broken = broken;
        }

        @Override
        protected Class<?> findClass(String name) throws ClassNotFoundException {
            boolean ofHouse = name.equals("WillHouse") || name.startsWith("WillHouse$");
            byte[] bytes = ofHouse && !broken.isEmpty() ? broken.get(name) : CLASSES.get(name);
            if (bytes == null) {
                throw new ClassNotFoundException(name);
            }
            return defineClass(name, bytes, 0, bytes.length);
        }
    }

    /** The classes that a source makes; none, if it does not compile. */
    private static Map<String, byte[]> compiled(String source) {
        JavaCompiler compiler = ToolProvider.getSystemJavaCompiler();
        Map<String, ByteArrayOutputStream> made = new HashMap<>();
        JavaFileObject file = new SimpleJavaFileObject(URI.create("string:///WillHouse.java"), JavaFileObject.Kind.SOURCE) {
            @Override
            public CharSequence getCharContent(boolean ignored) {
                return source;
            }
        };
        JavaFileManager manager = new ForwardingJavaFileManager<JavaFileManager>(compiler.getStandardFileManager(null, null, null)) {
            @Override
            public JavaFileObject getJavaFileForOutput(Location place, String name, JavaFileObject.Kind kind, FileObject sibling) {
                return new SimpleJavaFileObject(URI.create("string:///" + name + ".class"), kind) {
                    @Override
                    public OutputStream openOutputStream() {
                        return made.computeIfAbsent(name, n -> new ByteArrayOutputStream());
                    }
                };
            }
        };
        boolean fine = compiler.getTask(new StringWriter(), manager, null, null, null, List.of(file)).call();
        Map<String, byte[]> classes = new HashMap<>();
        made.forEach((name, bytes) -> classes.put(name, bytes.toByteArray()));
        return fine ? classes : Map.of();
    }
}
