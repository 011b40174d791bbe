import java.lang.reflect.InvocationTargetException;
import java.lang.reflect.Method;
import java.util.Arrays;
import java.util.Comparator;
import java.util.List;

/** Runs the tests of a class that each hold WillHouse to one sentence of the document. */
final class Sentences {
    /** All classes of such tests, for the index. */
    static final List<Class<?>> CLASSES = List.of(TextSentencesTest.class, HouseSentencesTest.class,
            ClassSentencesTest.class, ThrownSentencesTest.class, TapeSentencesTest.class, ToldSentencesTest.class,
            ActSentencesTest.class, DueSentencesTest.class, TakeSentencesTest.class, IfSentencesTest.class);

    private Sentences() {
    }

    static List<Method> of(Class<?> tests) {
        return Arrays.stream(tests.getDeclaredMethods()).filter(m -> m.isAnnotationPresent(Sentence.class))
                .sorted(Comparator.comparing(Method::getName)).toList();
    }

    /** All tests of the class, or the one that is named. */
    static void run(Class<?> tests, String... names) throws IllegalAccessException {
        for (Method test : of(tests)) {
            if (names.length == 0 || List.of(names).contains(test.getName())) {
                run(test);
            }
        }
        Checks.close(tests.getSimpleName());
    }

    private static void run(Method test) throws IllegalAccessException {
        int made = Checks.made();
        int failed = Checks.failed();
        try {
            test.invoke(null);
        } catch (InvocationTargetException thrown) {
            Checks.same(test.getName() + " throws", thrown.getCause().toString(), "nothing");
        }
        Checks.yes(test.getName() + " checks something", Checks.made() > made);
        if (Checks.failed() > failed) {
            Sentence sentence = test.getAnnotation(Sentence.class);
            System.out.println("  so " + test.getName() + " fails, and with it, of " + sentence.of() + ": " + sentence.says());
        }
    }
}
