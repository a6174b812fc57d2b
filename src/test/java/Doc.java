import java.io.IOException;
import java.nio.file.Files;
import java.nio.file.Path;
import java.util.Map;
import java.util.TreeMap;

/** The document, part by part: tests quote it, so that each says which of its sentences it is about. */
final class Doc {
    private static final Map<String, String> PARTS = read(Path.of("../shared/DOC.md"));

    private Doc() {
    }

    /** The parts by their names: "Promise 7", the headings' words, and those in capitals under "Terms". */
    static Map<String, String> parts() {
        return PARTS;
    }

    private static Map<String, String> read(Path file) {
        Map<String, StringBuilder> found = new TreeMap<>();
        StringBuilder part = new StringBuilder();
        try {
            for (String row : Files.readAllLines(file)) {
                if (row.startsWith("## ") || row.matches("[A-Z][A-Z ]+")) {
                    part = new StringBuilder();
                    found.put(row.replace("## ", "").replaceAll("^(Promise \\d+):.*", "$1"), part);
                } else {
                    part.append(row).append(' ');
                }
            }
        } catch (IOException e) {
            throw new IllegalStateException(e);
        }
        Map<String, String> parts = new TreeMap<>();
        found.forEach((name, text) -> parts.put(name, plain(text.toString())));
        return parts;
    }

    /** The words alone: without the marks around code and names, and with one blank between two. */
    static String plain(String text) {
        return text.replace("`", "").replaceAll("\\s+", " ").trim();
    }
}
