import java.io.IOException;
import java.lang.reflect.Executable;
import java.lang.reflect.Field;
import java.lang.reflect.Modifier;
import java.nio.file.Files;
import java.nio.file.Path;
import java.util.ArrayDeque;
import java.util.ArrayList;
import java.util.Arrays;
import java.util.List;
import java.util.regex.Matcher;
import java.util.regex.Pattern;

/** Those parts of LANGUAGE.md's rules that are easily seen from the program's text and its classes. */
public final class LanguageTest {
    private static final Check check = new Check();

    private static final String NO_CLOCK_OR_OUTSIDE_WORLD =
            "\\b(Thread|Runtime|Random|Scanner|File|Files|currentTimeMillis|nanoTime|getenv|getProperty)\\b";
    private static final String NOT_IN_THE_LANGUAGE =
            "->|::|\\b(package|synchronized|assert|finally|getMessage)\\b";
    private static final String LISTED_IMPORT = "java\\.util\\.(Arrays|ArrayList|List|Iterator|NoSuchElementException)";
    private static final String LISTED_MEMBER = "Arrays\\.(copyOf|copyOfRange|fill)\\(|System\\.arraycopy\\("
            + "|(Integer|Long|Math)\\.[a-z]\\w*(?<!Exact)\\(";
    private static final String LISTED_THROW = "throw new (IllegalState|IllegalArgument|IndexOutOfBounds|Arithmetic"
            + "|UnsupportedOperation|NoSuchElement|Runtime)Exception\\((\"\")?\\);";

    public static void main(String[] args) throws IOException {
        String text = withoutWords(Files.readString(Path.of("src/main/java/DemandedBits.java")));
        noneIn(text, "no package, rules 2 and 6", NOT_IN_THE_LANGUAGE);
        noneIn(text, "rule 5: a static initialiser", "\\bstatic\\s*\\{");
        noneIn(text, "rule 10: a text joined by +", "\"\"\\s*\\+|\\+\\s*\"\"");
        noneIn(text, "rule 13", NO_CLOCK_OR_OUTSIDE_WORLD);
        eachIs(text, "rule 4: an import", "(?<=\\bimport )[^;]*", LISTED_IMPORT);
        eachIs(text, "rule 4: the library", "\\b(Arrays|System|Integer|Long|Math)\\.\\w+.", LISTED_MEMBER);
        eachIs(text, "rule 6: a throw", "\\bthrow\\b[^;]*;", LISTED_THROW);
        blocksAreShort(text);
        List<Class<?>> classes = new ArrayList<>(Arrays.asList(DemandedBits.class.getDeclaredClasses()));
        classes.add(DemandedBits.class);
        check.same("rule 11: at most twelve classes", true, classes.size() <= 12);
        for (Class<?> one : classes) {
            fieldsAreFew(one);
            parametersAreFew(one);
        }
        check.end();
    }

    /** The text without its comments, and with nothing in its strings. */
    private static String withoutWords(String text) {
        return text.replaceAll("(?s)/\\*.*?\\*/", "").replaceAll("//.*", "").replaceAll("\"[^\"\n]*\"", "\"\"");
    }

    private static void noneIn(String text, String rule, String pattern) {
        Matcher found = Pattern.compile(pattern).matcher(text);
        check.same(rule, "nothing of it", found.find() ? found.group() : "nothing of it");
    }

    private static void eachIs(String text, String rule, String pattern, String listed) {
        Matcher found = Pattern.compile(pattern).matcher(text);
        int count = 0;
        while (found.find()) {
            count++;
            check.same(rule + ", " + found.group(), true, found.group().matches(listed));
        }
        check.same(rule + ", found", true, count > 0);
    }

    private static void blocksAreShort(String text) {
        ArrayDeque<Integer> begins = new ArrayDeque<>();
        String[] lines = text.split("\n");
        for (int i = 0; i < lines.length; i++) {
            for (char c : lines[i].toCharArray()) {
                if (c == '{') {
                    begins.push(i);
                } else if (c == '}') {
                    int begin = begins.pop();
                    boolean ofClass = lines[begin].matches(".*\\b(class|record|enum|interface)\\b.*");
                    check.same("rule 11: short, " + lines[begin].trim(), true, ofClass || i - begin < 60);
                }
            }
        }
        check.same("blocks left open", 0, begins.size());
    }

    private static void fieldsAreFew(Class<?> one) {
        int count = 0;
        for (Field field : one.getDeclaredFields()) {
            int modifiers = field.getModifiers();
            count += Modifier.isStatic(modifiers) ? 0 : 1;
            check.same("rule 5: " + field, true, !Modifier.isStatic(modifiers) || Modifier.isFinal(modifiers));
        }
        check.same("rule 11: at most twenty fields, " + one, true, count <= 20);
    }

    private static void parametersAreFew(Class<?> one) {
        List<Executable> all = new ArrayList<>(Arrays.asList(one.getDeclaredMethods()));
        all.addAll(Arrays.asList(one.getDeclaredConstructors()));
        for (Executable method : all) {
            check.same("rule 11: at most seven, " + method, true, method.getParameterCount() <= 7);
        }
    }
}
