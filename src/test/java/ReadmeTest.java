import java.io.IOException;
import java.lang.reflect.Method;
import java.lang.reflect.Modifier;
import java.nio.charset.StandardCharsets;
import java.nio.file.DirectoryStream;
import java.nio.file.Files;
import java.nio.file.Path;
import java.util.regex.Matcher;
import java.util.regex.Pattern;

/**
 * README.md tells what holds: its lines of code answer what stands beside them, and it names every
 * call of the face and every test. Its argument is the path of PotLabels.java; README.md stands
 * four folders above.
 */
public final class ReadmeTest {
    private static final Pattern LINE =
            Pattern.compile("bureau\\.(\\w+)\\(([0-9, -]*)\\);\\s*// (-?\\d+): .*");

    public static void main(String[] args) throws IOException, ReflectiveOperationException {
        Path root = Path.of(args[0]).toAbsolutePath().getParent().getParent().getParent().getParent();
        String page = Files.readString(root.resolve("README.md"), StandardCharsets.UTF_8);
        answers(page);
        callsAreNamed(page);
        testsAreNamed(page, root.resolve("src/test/java"));
        Check.isTrue("how to run the tests", page.contains("\n    .ci/run\n"));
        Check.finish();
    }

    private static void answers(String page) throws ReflectiveOperationException {
        PotLabels bureau = new PotLabels();
        int lines = 0;
        for (String line : page.split("\n")) {
            Matcher parts = LINE.matcher(line);
            if (parts.matches()) {
                lines++;
                Check.equal(line, Long.parseLong(parts.group(3)), answer(bureau, parts.group(1), parts.group(2)));
            } else {
                Check.isTrue("an answer stands beside " + line, !line.startsWith("bureau."));
            }
        }
        Check.isTrue("lines of code in README.md", lines > 0);
    }

    private static long answer(PotLabels bureau, String name, String list) throws ReflectiveOperationException {
        String[] words = list.isEmpty() ? new String[0] : list.split(", ");
        Class<?>[] types = new Class<?>[words.length];
        Object[] values = new Object[words.length];
        for (int i = 0; i < words.length; i++) {
            types[i] = int.class;
            values[i] = Integer.parseInt(words[i]);
        }
        return ((Number) PotLabels.class.getMethod(name, types).invoke(bureau, values)).longValue();
    }

    private static void callsAreNamed(String page) {
        for (Method method : PotLabels.class.getDeclaredMethods()) {
            if (Modifier.isPublic(method.getModifiers())) {
                Check.isTrue("README.md names " + method.getName(), page.contains("`" + method.getName() + "`"));
            }
        }
    }

    private static void testsAreNamed(String page, Path folder) throws IOException {
        int tests = 0;
        try (DirectoryStream<Path> files = Files.newDirectoryStream(folder, "*Test.java")) {
            for (Path file : files) {
                String name = file.getFileName().toString().replace(".java", "");
                Check.isTrue("README.md names " + name, page.contains("`" + name + "`"));
                tests++;
            }
        }
        Check.isTrue("tests in " + folder, tests > 0);
    }
}
