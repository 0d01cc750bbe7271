import java.io.IOException;
import java.lang.reflect.Method;
import java.nio.file.Files;
import java.nio.file.Path;
import java.util.regex.Matcher;
import java.util.regex.Pattern;

/** README.md: its example is run line by line, and its table of findings is held against the document's numbers. */
public final class ReadmeTest {
    private static final Pattern CALL = Pattern.compile("year\\.(\\w+)\\(([^)]*)\\); *// (-?\\d+):.*");
    private static final Pattern FINDING = Pattern.compile("\\| ([A-Z]+) \\| (-\\d+) \\| `status\\((\\d)\\)` \\|.*");
    private static final String[] NAMES = {"BEYOND", "FULL", "KIND", "NONE", "STATE", "MISSING", "SIZE"};

    public static void main(String[] args) throws IOException, ReflectiveOperationException {
        ShornYear year = new ShornYear();
        int calls = 0;
        int findings = 0;
        for (String line : Files.readAllLines(Path.of("README.md"))) {
            Matcher call = CALL.matcher(line);
            if (call.matches()) {
                calls++;
                Due.is(line, ask(year, call.group(1), call.group(2)), Long.parseLong(call.group(3)));
            }
            Matcher finding = FINDING.matcher(line);
            if (finding.matches()) {
                Due.is(line, finding.group(1).equals(NAMES[findings]) ? 1 : 0, 1);
                Due.is(line, Long.parseLong(finding.group(2)), Due.BEYOND - findings);
                Due.is(line, Integer.parseInt(finding.group(3)), findings);
                findings++;
            }
        }
        Due.is("calls of the example", calls, 16);
        Due.is("findings of the table", findings, NAMES.length);
        Due.end();
    }

    /** All calls of the example take ints. */
    private static long ask(ShornYear year, String name, String given) throws ReflectiveOperationException {
        String[] words = given.isEmpty() ? new String[0] : given.split(", *");
        Class<?>[] types = new Class<?>[words.length];
        Object[] numbers = new Object[words.length];
        for (int i = 0; i < words.length; i++) {
            types[i] = int.class;
            numbers[i] = Integer.decode(words[i]);
        }
        Method method = ShornYear.class.getMethod(name, types);
        return ((Number) method.invoke(year, numbers)).longValue();
    }
}
