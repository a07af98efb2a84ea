import java.io.IOException;
import java.nio.file.Files;
import java.nio.file.Path;
import java.util.regex.Matcher;
import java.util.regex.Pattern;

/** What LANGUAGE.md rules out by a word does not stand in the program (run from the project's root). */
public final class RulesTest {
    private static final String[] OUT = {
        "\\bthrow\\b", "\\bthrows\\b", "\\btry\\b", "\\bcatch\\b", "\\bsynchronized\\b", "\\bassert\\b", "\\bimport\\b",
        "\\bpackage\\b", "->", "::", "\\bprotected\\b", "Exact\\(", "\\bSystem\\.(?!arraycopy)", "\\bThread\\b", "\\brecord\\b"};

    public static void main(String[] args) throws IOException {
        Due due = new Due();
        String source = Files.readString(Path.of("src/main/java/LoaderModels.java"));
        String code = source.replaceAll("(?s)/\\*.*?\\*/", "").replaceAll("//[^\n]*", "");
        for (String word : OUT) due.is(word + " stands there", 0, count(word, code));
        due.is("classes", 1, count("\\bclass\\b", code) <= 12 ? 1 : 0);
        due.is("classes inside are private and static", count("\\bclass\\b", code) - 1, count("private static final class", code));
        due.is("characters", 1, source.chars().allMatch(ch -> ch < 256) ? 1 : 0);
        due.end();
    }

    private static int count(String pattern, String text) {
        Matcher m = Pattern.compile(pattern).matcher(text);
        int found = 0;
        while (m.find()) found++;
        return found;
    }
}
