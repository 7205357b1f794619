import java.io.IOException;
import java.lang.reflect.Method;
import java.nio.file.DirectoryStream;
import java.nio.file.Files;
import java.nio.file.Path;
import java.util.BitSet;
import java.util.Map;
import java.util.TreeMap;
import java.util.regex.Matcher;
import java.util.regex.Pattern;

/** Every word of the Terms and promises in DOC.md is said by a test that is named by that Term or promise. */
final class DocumentTest {
    private static final Path DOCUMENT = Path.of("../shared/DOC.md");
    private static final Path TESTS = Path.of("src/test/java");
    private static final Due DUE = new Due("DocumentTest");

    private final Map<String, String> parts = new TreeMap<>();
    private final Map<String, BitSet> said = new TreeMap<>();

    public static void main(String[] args) throws IOException, ClassNotFoundException {
        DocumentTest test = new DocumentTest();
        test.readParts(Files.readString(DOCUMENT));
        test.hearTests();
        test.findUnsaid();
        DUE.close();
    }

    private void readParts(String document) {
        int promises = document.indexOf("## Promise 1:");
        String terms = document.substring(document.indexOf("## Terms"), promises);
        Matcher term = Pattern.compile("(?ms)^([IV]+)\\. (.*?)(?=^[IV]+\\. |\\z)").matcher(terms);
        while (term.find()) put("term" + term.group(1), term.group(2).replace("```text", " ").replace("```", " "));
        Matcher promise = Pattern.compile("(?s)## Promise (\\d+): \\w[^\n]*\n\\s*`[^`]*`: (.*?)(?=\n## )")
            .matcher(document.substring(promises));
        while (promise.find()) put("promise" + promise.group(1), promise.group(2));
        DUE.is("Terms and promises", 7 + 65, parts.size());
    }

    private void put(String name, String text) {
        parts.put(name, plain(text));
        said.put(name, new BitSet());
    }

    private static String plain(String text) {
        return text.replaceAll("\\s+", " ").trim();
    }

    private void hearTests() throws IOException, ClassNotFoundException {
        try (DirectoryStream<Path> files = Files.newDirectoryStream(TESTS, "*Test.java")) {
            for (Path file : files) {
                for (Method test : Suite.testsOf(Class.forName(file.getFileName().toString().replace(".java", "")))) hear(test);
            }
        }
    }

    private void hear(Method test) {
        String name = test.getName().replaceAll("_.*", "");
        String part = parts.get(name);
        DUE.is(test + " is named by a Term or promise", 1, part != null ? 1 : 0);
        if (part == null) return;
        for (String words : test.getAnnotation(Says.class).value()) {
            int at = part.indexOf(plain(words));
            DUE.is(test.getName() + " says what stands there: " + words, 1, at >= 0 ? 1 : 0);
            if (at >= 0) said.get(name).set(at, at + plain(words).length());
        }
    }

    private void findUnsaid() {
        for (Map.Entry<String, String> part : parts.entrySet()) {
            StringBuilder unsaid = new StringBuilder();
            for (int i = 0; i < part.getValue().length(); i++) {
                unsaid.append(said.get(part.getKey()).get(i) ? '~' : part.getValue().charAt(i));
            }
            String left = unsaid.toString().replaceAll("[~ .,;:|()]+", " ").trim();
            DUE.is(part.getKey() + " is said but for: " + left, 0, left.length());
        }
    }
}
