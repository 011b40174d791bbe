import java.io.IOException;
import java.lang.reflect.Constructor;
import java.lang.reflect.Field;
import java.lang.reflect.Method;
import java.lang.reflect.Modifier;
import java.nio.file.Files;
import java.nio.file.Path;
import java.util.ArrayList;
import java.util.Arrays;
import java.util.List;
import java.util.TreeSet;
import java.util.regex.Matcher;
import java.util.regex.Pattern;

/** The public face as the document gives it, and the rules of LANGUAGE.md that can be seen from outside. */
final class FaceTest {
    private static final Path SOURCE = Path.of("src/main/java/WillHouse.java");
    private static final Path DOCUMENT = Path.of("../shared/DOC.md");
    // "some sixty lines", "some twelve classes", "some twenty fields"
    private static final int LONGEST_METHOD = 66;
    private static final int MOST_CLASSES = 14;
    private static final int MOST_FIELDS = 22;

    public static void main(String[] args) throws IOException {
        methodsAreTheDocuments();
        noOtherMember();
        namesOfPrivateMethods();
        forbiddenWords();
        shapes();
        Checks.close("FaceTest");
    }

    private static void methodsAreTheDocuments() throws IOException {
        String document = Files.readString(DOCUMENT);
        String face = document.substring(document.indexOf("public final class WillHouse"), document.indexOf("## Terms"));
        Matcher told = Pattern.compile("public (\\w+) (\\w+)\\(([^)]*)\\)(?: throws ([^;]+))?;").matcher(face);
        TreeSet<String> due = new TreeSet<>();
        while (told.find()) {
            String types = told.group(3).replaceAll("(int|boolean) \\w+", "$1");
            String thrown = told.group(4) == null ? "" : told.group(4);
            due.add(told.group(1) + " " + told.group(2) + "(" + types + ") " + thrown);
        }
        TreeSet<String> got = new TreeSet<>();
        for (Method method : WillHouse.class.getDeclaredMethods()) {
            if (!Modifier.isPrivate(method.getModifiers())) {
                Checks.yes(method + " is public alone", method.getModifiers() == Modifier.PUBLIC);
                got.add(method.getReturnType() + " " + method.getName() + "(" + simple(method.getParameterTypes()) + ") "
                        + simple(method.getExceptionTypes()));
            }
        }
        Checks.same("methods of the face", due.size(), 38);
        Checks.same("methods", got.toString(), due.toString());
    }

    private static String simple(Class<?>[] types) {
        return String.join(", ", Arrays.stream(types).map(Class::getSimpleName).toList());
    }

    private static void noOtherMember() throws IOException {
        Checks.same("class", WillHouse.class.getModifiers(), Modifier.PUBLIC | Modifier.FINAL);
        for (Field field : WillHouse.class.getDeclaredFields()) {
            if (!Modifier.isPrivate(field.getModifiers())) {
                Checks.same("field", field.getName(), "NONE");
                Checks.same("NONE", field.getModifiers(), Modifier.PUBLIC | Modifier.STATIC | Modifier.FINAL);
            }
            Checks.yes(field + " is no static state", !Modifier.isStatic(field.getModifiers())
                    || Modifier.isFinal(field.getModifiers()));
        }
        Constructor<?>[] constructors = WillHouse.class.getDeclaredConstructors();
        Checks.same("constructors", constructors.length, 1);
        Checks.same("constructor", constructors[0].getModifiers(), Modifier.PUBLIC);
        Checks.same("parameters", constructors[0].getParameterCount(), 0);
        for (Class<?> inside : WillHouse.class.getDeclaredClasses()) {
            Checks.no(inside + " is seen from outside", Modifier.isPublic(inside.getModifiers())
                    || Modifier.isProtected(inside.getModifiers()));
        }
        Checks.yes("at most some twelve classes", WillHouse.class.getDeclaredClasses().length < MOST_CLASSES);
    }

    private static void namesOfPrivateMethods() {
        TreeSet<String> names = new TreeSet<>();
        for (Method method : WillHouse.class.getMethods()) {
            names.add(method.getName());
        }
        List<Class<?>> classes = new ArrayList<>(List.of(WillHouse.class.getDeclaredClasses()));
        classes.add(WillHouse.class);
        for (Class<?> one : classes) {
            for (Method method : one.getDeclaredMethods()) {
                if (Modifier.isPrivate(method.getModifiers())) {
                    Checks.no(method + " bears the name of a public one", names.contains(method.getName()));
                }
            }
            int fields = 0;
            for (Field field : one.getDeclaredFields()) {
                fields += Modifier.isStatic(field.getModifiers()) ? 0 : 1;
            }
            Checks.yes(one + " has some twenty fields at most", fields <= MOST_FIELDS);
        }
    }

    private static String code() throws IOException {
        return Files.readString(SOURCE).replaceAll("/\\*(?s:.*?)\\*/", "").replaceAll("//[^\n]*", "");
    }

    private static void forbiddenWords() throws IOException {
        String code = code();
        for (String word : ("package finally synchronized assert native strictfp Object Map Set Optional Thread System.out"
                + " System.err System.exit System.nanoTime System.currentTimeMillis hashCode getClass getMessage").split(" ")) {
            Checks.no(word + " stands in the class", Pattern.compile("\\b" + word + "\\b").matcher(code).find());
        }
        Checks.no("a lambda", code.replaceAll("(case [^:;{}]*|default )->", "").contains("->"));
        Checks.no("a method reference", code.contains("::"));
        Checks.no("texts joined by +", Pattern.compile("\"\\s*\\+|\\+\\s*\"").matcher(code).find());
        Checks.no("other characters", Pattern.compile("[^\\x00-\\x7f]").matcher(code).find());
        Matcher imports = Pattern.compile("import ([\\w.]+);").matcher(code);
        while (imports.find()) {
            Checks.yes("import of " + imports.group(1), imports.group(1).matches(
                    "java\\.util\\.(Arrays|ArrayList|List|Iterator|NoSuchElementException)"));
        }
        Matcher thrown = Pattern.compile("\\bthrow\\b([^;]*);").matcher(code);
        while (thrown.find()) {
            Checks.yes("throw" + thrown.group(1), thrown.group(1).matches(" new (IllegalState|IllegalArgument|IndexOutOfBounds"
                    + "|NoSuchElement|Arithmetic|UnsupportedOperation|Runtime)Exception\\((\"[^\"]*\")?\\)"));
        }
    }

    private static void shapes() throws IOException {
        List<String> lines = Files.readAllLines(SOURCE);
        int begin = 0;
        for (int i = 0; i < lines.size(); i++) {
            String line = lines.get(i);
            if (line.matches("( {4}| {8})[\\w<>\\[\\], ]+\\(.*") && !line.contains(";")) {
                begin = i;
                int parameters = line.substring(line.indexOf('(')).split(",").length;
                Checks.yes("at most seven parameters: " + line, parameters <= 7);
            }
            if (line.matches("( {4}| {8})\\}")) {
                boolean isMethod = lines.get(begin).indexOf(lines.get(begin).trim()) == line.indexOf('}');
                Checks.yes("short method: " + lines.get(begin), !isMethod || i - begin < LONGEST_METHOD);
            }
        }
    }
}
