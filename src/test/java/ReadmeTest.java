import java.io.IOException;
import java.lang.reflect.Method;
import java.lang.reflect.Modifier;
import java.nio.file.Files;
import java.nio.file.Path;
import java.util.ArrayList;
import java.util.List;

/** README.md tells the truth (run from the project's root). */
public final class ReadmeTest {
    private static final Due due = new Due();

    public static void main(String[] args) throws IOException {
        List<String> lines = Files.readAllLines(Path.of("README.md"));
        theExampleAnswersWhatItSays(lines);
        theTableHasEveryCall(lines);
        everyTestIsNamed(String.join("\n", lines));
        due.end();
    }

    private static void theExampleAnswersWhatItSays(List<String> lines) {
        List<String> said = new ArrayList<>();
        for (String line : lines) {
            if (line.matches(".*\\bx\\.\\w+\\(.*;\\s+// .*")) said.add(line);
        }
        LoaderModels x = new LoaderModels();
        int at = 0;
        int loader = x.loader(0);
        says(said, at++, "int loader = x.loader(0);", loader);
        int file = x.file(7, 7, 0, 10, false);
        says(said, at++, "int file = x.file(7, 7, 0, 10, false);", file);
        says(said, at++, "x.method(file, 0, 0, 3, 1);", x.method(file, 0, 0, 3, 1));
        says(said, at++, "x.bear(loader, file);", x.bear(loader, file));
        int c = x.load(loader, 7);
        says(said, at++, "int c = x.load(loader, 7);", c);
        says(said, at++, "x.value(c);", x.value(c));
        int o = x.make(c);
        says(said, at++, "int o = x.make(c);", o);
        says(said, at++, "x.call(o, 0, 2);", x.call(o, 0, 2));
        says(said, at++, "x.cast(o, 0);", x.cast(o, 0));
        says(said, at++, "x.load(loader, 8);", x.load(loader, 8));
        says(said, at++, "x.told(6);", x.told(6));
        due.is("calls in the example", at, said.size());
    }

    private static void says(List<String> said, int at, String call, long got) {
        String line = at < said.size() ? said.get(at) : "";
        boolean told = line.startsWith(call + " ") && line.contains("// " + got + ":");
        due.is("README says " + call + " // " + got, 1, told ? 1 : 0);
    }

    private static void theTableHasEveryCall(List<String> lines) {
        for (Method m : LoaderModels.class.getDeclaredMethods()) {
            if (!Modifier.isPublic(m.getModifiers())) continue;
            int rows = 0;
            for (String line : lines) {
                if (line.startsWith("| `" + m.getName() + "(")) rows += parameters(line) == m.getParameterCount() ? 1 : 0;
            }
            due.is("rows of " + m.getName(), 1, rows);
        }
    }

    private static int parameters(String row) {
        return row.substring(0, row.indexOf(')')).split(",").length;
    }

    private static void everyTestIsNamed(String readme) throws IOException {
        try (var files = Files.list(Path.of("src/test/java"))) {
            for (Path file : files.toList()) {
                String name = file.getFileName().toString().replace(".java", "");
                if (name.endsWith("Test")) due.is(name + " is named", 1, readme.contains("`" + name + "`") ? 1 : 0);
            }
        }
    }
}
