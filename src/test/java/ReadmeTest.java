import java.io.IOException;
import java.lang.reflect.Method;
import java.lang.reflect.Modifier;
import java.nio.file.DirectoryStream;
import java.nio.file.Files;
import java.nio.file.Path;
import java.util.ArrayList;
import java.util.List;
import java.util.regex.Matcher;
import java.util.regex.Pattern;

/** README.md: its example answers as it says, and it names every call and every test. */
public final class ReadmeTest {
    private static final String FIRST_LINE = "InitiatorRows rows = new InitiatorRows();";
    private static final Pattern ROW = Pattern.compile("rows\\.(\\w+\\([-\\w, ]*\\)); +// (-?\\d+): .+");

    private static int wrong = 0;

    public static void main(String[] args) throws IOException {
        List<String> readme = Files.readAllLines(Path.of("README.md"));
        checkExample(example(readme));
        checkNames(String.join("\n", readme));
        System.out.println(wrong == 0 ? "README.md is as due" : wrong + " faults of README.md");
        if (wrong != 0) {
            System.exit(1);
        }
    }

    private static List<String> example(List<String> readme) {
        List<String> found = new ArrayList<>();
        boolean inside = false;
        for (String line : readme) {
            if (line.startsWith("```")) {
                inside = line.equals("```java");
            } else if (inside) {
                found.add(line);
            }
        }
        return found;
    }

    private static void checkExample(List<String> lines) {
        check(lines.size() > 10 && lines.get(0).equals(FIRST_LINE), "the example begins with a new object");
        InitiatorRows rows = new InitiatorRows();
        for (String line : lines.subList(Math.min(1, lines.size()), lines.size())) {
            Matcher row = ROW.matcher(line);
            if (!row.matches()) {
                check(false, "a call with its answer: " + line);
                continue;
            }
            String got = Call.of(row.group(1)).answer(rows);
            check(got.equals(row.group(2)), line + " (it answers " + got + ")");
        }
    }

    private static void checkNames(String readme) throws IOException {
        for (Method m : InitiatorRows.class.getDeclaredMethods()) {
            if (Modifier.isPublic(m.getModifiers())) {
                check(readme.contains("| `" + m.getName() + "("), "README.md tells " + m.getName());
            }
        }
        try (DirectoryStream<Path> tests = Files.newDirectoryStream(Path.of("src/test"), "*")) {
            for (Path folder : tests) {
                checkFolder(readme, folder);
            }
        }
        check(readme.contains("    bash .ci/run\n"), "README.md tells how to run the tests");
    }

    private static void checkFolder(String readme, Path folder) throws IOException {
        try (DirectoryStream<Path> files = Files.newDirectoryStream(folder, "*.java")) {
            for (Path file : files) {
                String name = file.getFileName().toString().replace(".java", "");
                check(readme.contains("`" + name + "`"), "README.md tells " + name);
            }
        }
    }

    private static void check(boolean holds, String what) {
        if (!holds) {
            wrong++;
            System.out.println("not so: " + what);
        }
    }
}
