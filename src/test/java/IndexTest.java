import java.io.IOException;
import java.lang.reflect.Method;
import java.nio.file.Files;
import java.nio.file.Path;
import java.util.ArrayList;
import java.util.BitSet;
import java.util.Comparator;
import java.util.LinkedHashMap;
import java.util.List;
import java.util.Map;

/**
 * From each sentence of the document to its test and back: all that Terms and promises say is held by tests, each test
 * quotes words that stand in the document, and SENTENCES.md tells both. "java IndexTest write" writes that file anew.
 */
final class IndexTest {
    private static final Path DOCUMENT = Path.of("../shared/DOC.md");
    private static final Path INDEX = Path.of("SENTENCES.md");

    private final Map<String, String> sections = new LinkedHashMap<>();
    private final List<Method> tests = new ArrayList<>();

    public static void main(String[] args) throws IOException {
        IndexTest index = new IndexTest();
        index.readDocument();
        for (Class<?> one : Sentences.CLASSES) {
            index.tests.addAll(Sentences.of(one));
        }
        if (args.length > 0 && args[0].equals("write")) {
            Files.writeString(INDEX, index.table());
        }
        index.quotesStandInTheDocument();
        index.allOfTheDocumentIsQuoted();
        Checks.same("SENTENCES.md", Files.readString(INDEX), index.table());
        Checks.close("IndexTest");
    }

    private void readDocument() throws IOException {
        String document = Files.readString(DOCUMENT).replaceAll("```\\w*", " ");
        put("What it is", document, "An object is used for", "what later calls answer");
        for (int terms = 1; terms <= 3; terms++) {
            put("Terms " + terms, document, "==== " + terms + ".", terms < 3 ? "==== " + (terms + 1) + "." : "Of several exceptions");
        }
        put("Exceptions", document, "Of several exceptions", "Ahead of the calls `sell`");
        for (int promise = 1; promise <= 39; promise++) {
            put("Promise " + promise, document, "## Promise " + promise + ":", promise < 39 ? "## Promise " + (promise + 1) + ":"
                    : "## Not promised");
        }
    }

    private void put(String name, String document, String from, String to) {
        int begin = document.indexOf(from);
        int end = document.indexOf(to, begin);
        if (begin < 0 || end < 0) {
            Checks.same(name + " stands in the document", begin + " to " + end, "somewhere");
            return;
        }
        String text = document.substring(begin, end);
        if (name.startsWith("Promise")) {
            text = text.substring(text.indexOf("`: ") + 3);
        } else if (name.startsWith("Terms")) {
            text = text.substring(from.length());
        }
        sections.put(name, text.replaceAll("\\s+", " ").trim());
    }

    private static Sentence sentence(Method test) {
        return test.getAnnotation(Sentence.class);
    }

    private static String name(Method test) {
        return test.getDeclaringClass().getSimpleName() + "." + test.getName();
    }

    private void quotesStandInTheDocument() {
        for (Method test : tests) {
            String section = sections.getOrDefault(sentence(test).of(), "");
            Checks.yes(name(test) + " quotes words of " + sentence(test).of(), section.contains(sentence(test).says()));
        }
    }

    private void allOfTheDocumentIsQuoted() {
        for (Map.Entry<String, String> section : sections.entrySet()) {
            String text = section.getValue();
            BitSet quoted = new BitSet();
            for (Method test : tests) {
                int at = text.indexOf(sentence(test).says());
                if (sentence(test).of().equals(section.getKey()) && at >= 0) {
                    quoted.set(at, at + sentence(test).says().length());
                }
            }
            int open = firstOpen(text, quoted);
            Checks.same(section.getKey() + ", what no test holds", open < 0 ? "" : text.substring(open), "");
        }
    }

    private static int firstOpen(String text, BitSet quoted) {
        for (int at = quoted.nextClearBit(0); at < text.length(); at = quoted.nextClearBit(at + 1)) {
            if (text.charAt(at) != ' ') {
                return at;
            }
        }
        return -1;
    }

    private String table() {
        StringBuilder table = new StringBuilder("# From each sentence to its test\n\n"
                + "Each row tells words of `../shared/DOC.md` and the test (under `src/test/java`) that fails if they are broken; each\n"
                + "such test tells its words by `@Sentence`. `IndexTest` checks that nothing of the document is left out, and that this\n"
                + "file is as the tests have it; `java -cp build/own IndexTest write` writes it anew. `src/test/breaks/breaks.txt` tells\n"
                + "for each test at least one way to break its words in the class, by which it fails. The public face is held by\n"
                + "`FaceTest`.\n");
        for (Map.Entry<String, String> section : sections.entrySet()) {
            table.append("\n## ").append(section.getKey()).append("\n\n| sentence | test |\n| --- | --- |\n");
            tests.stream().filter(test -> sentence(test).of().equals(section.getKey()))
                    .sorted(Comparator.comparing((Method test) -> section.getValue().indexOf(sentence(test).says()))
                            .thenComparing(IndexTest::name))
                    .forEach(test -> table.append("| ").append(sentence(test).says().replace("|", "\\|")).append(" | `")
                            .append(name(test)).append("` |\n"));
        }
        return table.toString();
    }
}
