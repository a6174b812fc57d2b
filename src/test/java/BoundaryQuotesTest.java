import java.io.IOException;
import java.nio.file.DirectoryStream;
import java.nio.file.Files;
import java.nio.file.Path;
import java.util.Arrays;
import java.util.Map;
import java.util.Set;
import java.util.TreeMap;
import java.util.TreeSet;
import java.util.regex.Matcher;
import java.util.regex.Pattern;

/**
 * The tests of boundary cases leave no sentence out: every stretch of the document is quoted by one
 * of them, but for those named here; and each test that is written is run. Run it from the project's folder.
 */
public final class BoundaryQuotesTest {
    private static final Pattern QUOTE =
        Pattern.compile("new Sentence\\(\\s*\"([^\"]*)\",\\s*((?:\"(?:[^\"\\\\]|\\\\.)*\"\\s*\\+?\\s*)+)\\)");
    private static final Pattern LITERAL = Pattern.compile("\"((?:[^\"\\\\]|\\\\.)*)\"");
    private static final Pattern TEST = Pattern.compile("private static void (\\w+)\\(\\) \\{");
    /** These name no case, only what the words around them are about; FaceTest looks at the face. */
    private static final Set<String> WITHOUT_CASES = new TreeSet<>(Arrays.asList(
        "what later calls answer is free", "A ticket is for one word", "text a. If the slot holds a word",
        "A ticket is", "Errors are reported by the constants below", "The constants"));
    private static final Set<String> PARTS_WITHOUT_CASES =
        new TreeSet<>(Arrays.asList("The public face", "Terms", "Not promised"));

    public static void main(String[] args) throws IOException {
        Map<String, boolean[]> quoted = new TreeMap<>();
        Doc.parts().forEach((part, text) -> quoted.put(part, new boolean[text.length()]));
        try (DirectoryStream<Path> sources = Files.newDirectoryStream(Path.of("src/test/java"), "Boundary*Test.java")) {
            for (Path source : sources) {
                String code = Files.readString(source);
                markQuotes(source.getFileName().toString(), code, quoted);
                everyTestIsRun(source.getFileName().toString(), code);
            }
        }
        long promises = Doc.parts().keySet().stream().filter(part -> part.startsWith("Promise")).count();
        Check.due("all promises are there", promises == 33);
        quoted.forEach(BoundaryQuotesTest::nothingIsLeftOut);
        Check.end("BoundaryQuotesTest");
    }

    private static void markQuotes(String source, String code, Map<String, boolean[]> quoted) {
        Matcher quote = QUOTE.matcher(code);
        while (quote.find()) {
            String part = quote.group(1);
            String words = joined(quote.group(2));
            int at = Doc.parts().getOrDefault(part, "").indexOf(words);
            Check.due(source + " quotes " + part + ": " + words, at >= 0 && !words.isEmpty());
            if (at >= 0) {
                Arrays.fill(quoted.get(part), at, at + words.length(), true);
            }
        }
    }

    private static String joined(String literals) {
        StringBuilder words = new StringBuilder();
        Matcher literal = LITERAL.matcher(literals);
        while (literal.find()) {
            words.append(literal.group(1).replace("\\\"", "\""));
        }
        return words.toString();
    }

    private static void everyTestIsRun(String source, String code) {
        Matcher test = TEST.matcher(code);
        while (test.find()) {
            Check.due(source + " runs " + test.group(1), code.contains("\n        " + test.group(1) + "();\n"));
        }
    }

    private static void nothingIsLeftOut(String part, boolean[] quoted) {
        if (PARTS_WITHOUT_CASES.contains(part)) {
            return;
        }
        StringBuilder rest = new StringBuilder(Doc.parts().get(part));
        for (int i = 0; i < quoted.length; i++) {
            if (quoted[i]) {
                rest.setCharAt(i, '\n');
            }
        }
        for (String stretch : rest.toString().split("\n+")) {
            String words = stretch.replaceAll("^(int )?\\w+\\([^)]*\\):", "").replaceAll("^[ .;,:-]+|[ .;,:-]+$", "");
            boolean namesCases = words.length() > 3 && !WITHOUT_CASES.contains(words)
                && !words.startsWith("Ahead of the calls") && !words.startsWith("Two lines of mercury");
            Check.due(part + " is quoted by a test: " + words, !namesCases);
        }
    }
}
