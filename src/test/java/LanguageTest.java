import java.io.IOException;
import java.lang.reflect.Executable;
import java.lang.reflect.Field;
import java.lang.reflect.Modifier;
import java.nio.file.Files;
import java.nio.file.Path;
import java.util.ArrayList;
import java.util.Arrays;
import java.util.List;
import java.util.regex.Matcher;
import java.util.regex.Pattern;

/** What can be seen of LANGUAGE.md in the source's text and in its classes; run it from the project's folder. */
public final class LanguageTest {
    /** A rule's number, and what it forbids. */
    private static final String[][] FORBIDDEN = {
        {"2", "->"}, {"2", "::"}, {"2", "\\bnew\\s+\\w+\\s*\\([^()]*\\)\\s*\\{"},
        {"3", "\\bObject\\b"}, {"3", "\\[\\]\\s*\\[\\]\\s*\\["},
        {"4", "\\bimport\\s+(?!java\\.util\\.(ArrayList|List|Iterator|Arrays)\\s*;)"},
        {"4", "\\bSystem\\.(?!arraycopy\\b)"}, {"4", "\\bArrays\\.(?!(copyOf|copyOfRange|fill)\\b)"},
        {"4", "\\b(Math|Integer|Long)\\.(\\w+Exact|random|valueOf|parse\\w+|sqrt|pow|floor|ceil|round|rint)\\b"},
        {"5", "\\bstatic\\s*\\{"},
        {"6", "\\b(throw|throws|try|catch|finally|synchronized|assert)\\b"}, {"6", "\\bhashCode\\b"},
        {"6", "\\b(boolean\\s+equals|String\\s+toString)\\s*\\("}, {"6", "\\w*(Exception|Error|Throwable)\\b"},
        {"9", "\\bwhile\\s*\\(\\s*true"}, {"9", "\\bfor\\s*\\([^;)]*;\\s*;"},
        {"10", "\"\\s*\\+|\\+=?\\s*\""},
        {"13", "\\b(Thread|Runtime|Random|ProcessHandle)\\b"}};
    private static final List<Class<?>> CONSTANTS = Arrays.asList(int.class, long.class, boolean.class,
        char.class, String.class, int[].class, long[].class, char[].class, byte[].class);

    public static void main(String[] args) throws IOException {
        String source = Files.readString(Path.of("src/main/java/MercuryLine.java"));
        for (char sign : source.toCharArray()) {
            if (sign > 126 || sign < 32 && sign != '\n') {
                Check.due("4: the source has a sign " + (int) sign, false);
            }
        }
        Check.due("4: no sign is hidden in an escape", !source.contains("\\u"));
        String code = source.replaceAll("(?s)/\\*.*?\\*/", "").replaceAll("//[^\n]*", "")
            .replaceAll("'[^'\n]+'", "0").replaceAll("\"(?:[^\"\\\\\n]|\\\\.)*\"", "\"\"");
        Check.due("1: no package line", !Pattern.compile("(?m)^\\s*package\\b").matcher(code).find());
        for (String[] forbidden : FORBIDDEN) {
            Matcher found = Pattern.compile(forbidden[1]).matcher(code);
            boolean isThere = found.find();
            Check.due(forbidden[0] + ": not allowed: " + (isThere ? found.group() : ""), !isThere);
        }
        shortMethods(code);
        List<Class<?>> classes = new ArrayList<>(Arrays.asList(MercuryLine.class.getDeclaredClasses()));
        classes.add(MercuryLine.class);
        for (Class<?> one : classes) {
            staticFields(one);
            parameters(one);
        }
        Check.end("LanguageTest");
    }

    private static void shortMethods(String code) {
        Matcher head = Pattern.compile("(?m)^( +)[\\w\\[\\]<> ]+\\([^()]*\\) \\{$").matcher(code);
        int methods = 0;
        while (head.find()) {
            if (head.group().matches("(?s) +(if|for|while|switch|else|do)\\b.*")) {
                continue;
            }
            methods++;
            int end = code.indexOf("\n" + head.group(1) + "}\n", head.start());
            Check.due("11: its end is found: " + head.group(), end > 0);
            Check.due("11: short: " + head.group(), code.substring(head.start(), end).lines().count() <= 60);
        }
        Check.due("11: those of the face are found at least", methods >= 32);
    }

    private static void staticFields(Class<?> one) {
        for (Field field : one.getDeclaredFields()) {
            if (Modifier.isStatic(field.getModifiers()) && !field.isSynthetic() && !one.isEnum()) {
                Check.due("5: final: " + field, Modifier.isFinal(field.getModifiers()));
                Check.due("5: a constant: " + field, CONSTANTS.contains(field.getType()));
            }
        }
    }

    private static void parameters(Class<?> one) {
        List<Executable> all = new ArrayList<>(Arrays.asList(one.getDeclaredMethods()));
        all.addAll(Arrays.asList(one.getDeclaredConstructors()));
        for (Executable method : all) {
            Check.due("11: seven parameters at most: " + method, method.getParameterCount() <= 7);
        }
    }
}
