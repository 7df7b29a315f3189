import java.io.IOException;
import java.lang.reflect.Method;
import java.nio.file.DirectoryStream;
import java.nio.file.Files;
import java.nio.file.Path;
import java.util.ArrayList;
import java.util.List;
import java.util.Map;
import java.util.TreeMap;

/** That the words beside the tests stand in the document, and that each of its words stands beside a test. */
public final class DocumentTest {
    private static final Path DOCUMENT = Path.of("../shared/DOC.md");
    private static final Path TESTS = Path.of("src/test/java");
    private static final int PROMISES = 32;
    /** What the document is and its terms are one part, the others are the promises by their numbers. */
    private static final int TERMS = 0;

    private static final class Part {
        final StringBuilder text = new StringBuilder();
        boolean[] isQuoted = new boolean[0];
    }

    public static void main(String[] args) throws Exception {
        Map<Integer, Part> parts = partsOf(Files.readString(DOCUMENT));
        Check.due("parts of the document", parts.size(), PROMISES + 1);
        for (Class<?> tests : testClasses()) {
            for (Method test : Check.testsOf(tests)) {
                Says says = test.getAnnotation(Says.class);
                Check.holds(test + " names a promise", says.promise() >= 1 && says.promise() <= PROMISES);
                for (String words : says.words()) {
                    quote(parts, test, says.promise(), oneLine(words));
                }
            }
        }
        for (Map.Entry<Integer, Part> part : parts.entrySet()) {
            Check.due("words of part " + part.getKey() + " that are beside no test", unquoted(part.getValue()), List.of());
        }
        Check.end();
    }

    private static Map<Integer, Part> partsOf(String document) {
        Map<Integer, Part> parts = new TreeMap<>();
        for (String section : document.split("(?m)^## ")) {
            int lineEnd = section.indexOf('\n');
            int part = partOf(section.substring(0, lineEnd));
            if (part >= 0) {
                String body = section.substring(lineEnd).replaceAll("`int [^`]*`:|`long [^`]*`:|`TaxedByLongest\\(\\)`:", "")
                        .replaceAll("```(text)?|==== I+\\.", "");
                parts.computeIfAbsent(part, p -> new Part()).text.append(oneLine(body)).append(' ');
            }
        }
        parts.values().forEach(part -> part.isQuoted = new boolean[part.text.length()]);
        return parts;
    }

    private static int partOf(String title) {
        if (title.equals("What it is") || title.equals("Terms")) {
            return TERMS;
        }
        return title.startsWith("Promise ") ? Integer.parseInt(title.substring(8, title.indexOf(':'))) : -1;
    }

    private static String oneLine(String text) {
        return text.replaceAll("\\s+", " ").trim();
    }

    private static List<Class<?>> testClasses() throws IOException, ClassNotFoundException {
        List<Class<?>> classes = new ArrayList<>();
        try (DirectoryStream<Path> files = Files.newDirectoryStream(TESTS, "*Test.java")) {
            for (Path file : files) {
                classes.add(Class.forName(file.getFileName().toString().replace(".java", "")));
            }
        }
        return classes;
    }

    /** The words are looked for in the promise, and then in the terms. */
    private static void quote(Map<Integer, Part> parts, Method test, int promise, String words) {
        for (int number : new int[] {promise, TERMS}) {
            Part part = parts.get(number);
            int place = part.text.indexOf(words);
            if (place >= 0) {
                Check.holds(test + " quotes what stands there once: " + words, part.text.indexOf(words, place + 1) < 0);
                java.util.Arrays.fill(part.isQuoted, place, place + words.length(), true);
                return;
            }
        }
        Check.holds(test + " quotes what stands in the document: " + words, false);
    }

    private static List<String> unquoted(Part part) {
        StringBuilder left = new StringBuilder(part.text);
        for (int i = 0; i < left.length(); i++) {
            if (part.isQuoted[i]) {
                left.setCharAt(i, '\n');
            }
        }
        List<String> words = new ArrayList<>();
        for (String piece : left.toString().split("\n+")) {
            if (piece.matches(".*\\w.*")) {
                words.add(piece.trim());
            }
        }
        return words;
    }
}
