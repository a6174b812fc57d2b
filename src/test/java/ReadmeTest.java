import java.io.IOException;
import java.nio.file.Files;
import java.nio.file.Path;
import java.util.Map;
import java.util.TreeSet;
import java.util.regex.Matcher;
import java.util.regex.Pattern;

/** README.md tells the answers of its calls, and all calls of the face. Run it from the project's folder. */
public final class ReadmeTest {
    private static final Pattern BLOCK = Pattern.compile("(?s)```java\n(.*?)```");
    private static final Pattern CALL = Pattern.compile("lines\\.(\\w+)\\(([^)]*)\\); +// (-?\\w+)[:;].*");
    private static final Pattern TYPED = Pattern.compile("for \\(char sign : \"(.*)\"\\.toCharArray\\(\\)\\) \\{");
    private static final Map<String, Integer> NAMES = Map.of("UNKNOWN", -1, "BAD_VALUE", -2, "FULL", -3,
        "NOT_POSSIBLE", -4, "NONE", -5);

    public static void main(String[] args) throws IOException {
        String page = Files.readString(Path.of("README.md"));
        examples(page);
        allCallsAreNamed(page);
        Check.due("the page tells how the tests are run", page.contains("\n.ci/run\n"));
        Check.end("ReadmeTest");
    }

    private static void examples(String page) {
        MercuryLine x = null;
        int calls = 0;
        Matcher block = BLOCK.matcher(page);
        while (block.find()) {
            for (String row : block.group(1).split("\n")) {
                Matcher call = CALL.matcher(row);
                Matcher typed = TYPED.matcher(row);
                if (row.equals("MercuryLine lines = new MercuryLine();")) {
                    x = new MercuryLine();
                } else if (typed.matches()) {
                    Setup.typed(x, typed.group(1));
                } else if (call.matches()) {
                    calls++;
                    Check.due(row, called(x, call.group(1), call.group(2)), answer(call.group(3)));
                } else {
                    Check.due("a row of the loop: " + row, row.equals("    lines.type(sign);") || row.equals("}"));
                }
            }
        }
        Check.due("there are examples", calls > 20);
    }

    private static int called(MercuryLine x, String method, String arguments) {
        String[] numbers = arguments.isEmpty() ? new String[0] : arguments.split(", ");
        int[] with = new int[numbers.length];
        for (int i = 0; i < with.length; i++) {
            with[i] = Integer.parseInt(numbers[i]);
        }
        return new Call(method, with).of(x);
    }

    private static int answer(String words) {
        Integer named = NAMES.get(words);
        return named != null ? named : Integer.parseInt(words);
    }

    private static void allCallsAreNamed(String page) {
        TreeSet<String> missing = new TreeSet<>();
        for (java.lang.reflect.Method method : MercuryLine.class.getDeclaredMethods()) {
            if (java.lang.reflect.Modifier.isPublic(method.getModifiers())) {
                missing.add(method.getName());
            }
        }
        missing.removeIf(name -> page.contains("`" + name + "`"));
        Check.due("all calls are named on the page, but for " + missing, missing.isEmpty());
    }
}
