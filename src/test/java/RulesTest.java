import java.io.IOException;
import java.lang.reflect.Constructor;
import java.lang.reflect.Field;
import java.lang.reflect.Method;
import java.lang.reflect.Modifier;
import java.nio.file.Files;
import java.nio.file.Path;
import java.util.ArrayList;
import java.util.List;
import java.util.regex.Matcher;
import java.util.regex.Pattern;

/** What LANGUAGE.md rules out by a word or a number does not stand in the program (run from the project's root). */
public final class RulesTest {
    private static final String[] OUT = {
        "\\bthrow\\b", "\\bthrows\\b", "\\btry\\b", "\\bcatch\\b", "\\bsynchronized\\b", "\\bassert\\b", "\\bimport\\b",
        "\\bpackage\\b", "->", "::", "\\bprotected\\b", "Exact\\(", "\\bSystem\\.(?!arraycopy)", "\\bThread\\b", "\\brecord\\b",
        "\\bdouble\\b", "\\bfloat\\b", "\\bstatic \\{", "\\.(equals|hashCode|toString)\\(", "while \\(true\\)", "for \\(;;\\)"};
    private static final int METHOD_LINES = 60, PARAMETERS = 7, FIELDS = 20, CLASSES = 12;
    private static final Pattern METHOD = Pattern.compile("^( +)(?:\\w+ )*[\\w\\[\\]]+ (\\w+)\\([^;]*\\) \\{$");
    private static final Due due = new Due();

    public static void main(String[] args) throws IOException {
        String source = Files.readString(Path.of("src/main/java/LoaderModels.java"));
        String code = source.replaceAll("(?s)/\\*.*?\\*/", "").replaceAll("//[^\n]*", "");
        for (String word : OUT) due.is(word + " stands there", 0, count(word, code));
        due.is("classes", 1, count("\\bclass\\b", code) <= CLASSES ? 1 : 0);
        due.is("classes inside are private and static", count("\\bclass\\b", code) - 1, count("private static final class", code));
        due.is("characters", 1, source.chars().allMatch(ch -> ch < 256) ? 1 : 0);
        methodsAreShortAndDoNotCallThemselves(code.split("\n"));
        classesAreSmall();
        due.end();
    }

    private static void methodsAreShortAndDoNotCallThemselves(String[] lines) {
        int methods = 0;
        for (int i = 0; i < lines.length; i++) {
            Matcher header = METHOD.matcher(lines[i]);
            if (!header.matches() || header.group(1).length() > 8) continue;
            methods++;
            int end = i + 1;
            while (!lines[end].equals(header.group(1) + "}")) end++;
            due.is(header.group(2) + " is short", 1, end - i <= METHOD_LINES ? 1 : 0);
            for (int at = i + 1; at < end; at++) {
                due.is(header.group(2) + " calls itself", 0, count("(?<![.\\w])" + header.group(2) + "\\(", lines[at]));
            }
        }
        due.is("methods were found", 1, methods > 40 ? 1 : 0);
    }

    private static void classesAreSmall() {
        List<Class<?>> all = new ArrayList<>(List.of(LoaderModels.class.getDeclaredClasses()));
        all.add(LoaderModels.class);
        for (Class<?> c : all) {
            int fields = 0;
            for (Field f : c.getDeclaredFields()) {
                if (!Modifier.isStatic(f.getModifiers())) fields++;
                else due.is(f + " is a constant", 1, Modifier.isFinal(f.getModifiers()) && f.getType().isPrimitive() ? 1 : 0);
            }
            due.is(c + " has few fields", 1, fields <= FIELDS ? 1 : 0);
            for (Method m : c.getDeclaredMethods()) due.is(m + " takes few", 1, m.getParameterCount() <= PARAMETERS ? 1 : 0);
            for (Constructor<?> k : c.getDeclaredConstructors()) due.is(k + " takes few", 1, k.getParameterCount() <= PARAMETERS ? 1 : 0);
        }
    }

    private static int count(String pattern, String text) {
        Matcher m = Pattern.compile(pattern).matcher(text);
        int found = 0;
        while (m.find()) found++;
        return found;
    }
}
