import java.io.IOException;
import java.nio.file.Files;
import java.nio.file.Path;
import java.util.regex.Matcher;
import java.util.regex.Pattern;

/** What can be seen of LANGUAGE.md in the source's text alone; run it from the project's folder. */
public final class LanguageTest {
    private static final String[] FORBIDDEN = {
        "\\b(throw|throws|try|catch|finally|synchronized|assert|volatile|transient|native)\\b",
        "\\b(import|package|protected|instanceof)\\b", "->", "::", "@", "\\bstatic\\s*\\{",
        "\\bException\\b", "\\bObject\\b", "\\b(hashCode|toString|equals)\\b", "\\bThread\\b",
        "\\bSystem\\.(?!arraycopy\\b)", "\\bMath\\.(?!(abs|min|max|floorMod|floorDiv)\\b)",
        "\\bwhile\\s*\\(\\s*true", "\\bfor\\s*\\(\\s*;"};

    public static void main(String[] args) throws IOException {
        String source = Files.readString(Path.of("src/main/java/MercuryLine.java"));
        for (char sign : source.toCharArray()) {
            if (sign > 126 || sign < 32 && sign != '\n') {
                Check.due("the source has a sign " + (int) sign, false);
            }
        }
        String code = source.replaceAll("(?s)/\\*.*?\\*/", "").replaceAll("//[^\n]*", "")
            .replaceAll("'[^'\n]+'", "0");
        for (String forbidden : FORBIDDEN) {
            Matcher found = Pattern.compile(forbidden).matcher(code);
            Check.due("no " + forbidden + " in the source", !found.find());
        }
        shortMethods(code);
        Check.end("LanguageTest");
    }

    private static void shortMethods(String code) {
        Matcher head = Pattern.compile("(?m)^( +)[\\w\\[\\] ]+\\(([^()]*)\\) \\{$").matcher(code);
        int methods = 0;
        while (head.find()) {
            if (head.group().matches("(?s) +(if|for|while|switch|\\}|else|do)\\b.*")) {
                continue;
            }
            methods++;
            String end = "\n" + head.group(1).replace("\n", "") + "}\n";
            String body = code.substring(head.start(), code.indexOf(end, head.start()));
            Check.due("short: " + head.group(), body.lines().count() <= 60);
            Check.due("few arguments: " + head.group(), head.group(2).split(",").length <= 7);
        }
        Check.due("methods are found", methods > 80);
    }
}
