import java.io.File;
import java.io.IOException;
import java.lang.reflect.Method;
import java.nio.file.Files;
import java.nio.file.Path;
import java.util.List;
import java.util.regex.Matcher;
import java.util.regex.Pattern;

/** What README.md shows is so: the calls with their answers, the sets, and which tests there are. */
public final class ReadmeTest {
    private static final String NEW = "HashTreeSigner x = new HashTreeSigner();";
    private static final Pattern CALL = Pattern.compile("x\\.(\\w+)\\(([^)]*)\\);\\s*// (\\w+)(:.*)?");
    private static final Pattern SETS = Pattern.compile("\\| (\\d+), (\\d+) \\|([ 0-9|]+)\\|");

    public static void main(String[] args) throws IOException, ReflectiveOperationException {
        List<String> page = Files.readAllLines(Path.of("README.md"));
        Check.due("calls shown", calls(page), 16);
        Check.due("rows of sets", sets(page), 6);
        tests(String.join("\n", page));
        Check.done();
    }

    /** Makes the calls of the example one after another, and counts them. */
    private static int calls(List<String> page) throws ReflectiveOperationException {
        int from = page.indexOf("```java") + 1;
        List<String> example = page.subList(from, from + page.subList(from, page.size()).indexOf("```"));
        Check.due("first line of the example", example.get(0), NEW);
        HashTreeSigner x = new HashTreeSigner();
        int made = 0;
        for (String line : example.subList(1, example.size())) {
            Matcher call = CALL.matcher(line);
            if (call.matches()) {
                made++;
                Check.due(line, String.valueOf(answer(x, call.group(1), call.group(2).split(", "))), call.group(3));
            } else {
                Check.due(line, line.isEmpty() || line.startsWith("// "), true);
            }
        }
        return made;
    }

    private static Object answer(HashTreeSigner x, String name, String[] numbers)
            throws ReflectiveOperationException {
        Class<?>[] types = new Class<?>[numbers.length];
        Object[] values = new Object[numbers.length];
        for (int j = 0; j < numbers.length; j++) {
            types[j] = int.class;
            values[j] = Integer.decode(numbers[j]);
        }
        Method method = HashTreeSigner.class.getMethod(name, types);
        return method.invoke(x, values);
    }

    private static int sets(List<String> page) {
        int rows = 0;
        for (String line : page) {
            Matcher row = SETS.matcher(line);
            if (row.matches()) {
                PlainSlh s = new PlainSlh(rows);
                int n = s.n;
                Check.due("sets of row " + rows, row.group(1) + " " + row.group(2), rows + " " + (rows + 6));
                String want = n + " | " + 3 * n + " | " + 2 * n + " | " + 4 * n + " | " + s.signature
                        + " | " + s.d + " | " + s.p;
                Check.due("numbers of row " + rows, row.group(3).trim(), want);
                rows++;
            }
        }
        return rows;
    }

    private static void tests(String page) {
        for (String file : new File("src/test/java").list()) {
            String name = file.replace(".java", "");
            Check.due("README.md names " + name, page.contains("`" + name + "`"), true);
        }
    }
}
