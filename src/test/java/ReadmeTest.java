import java.io.IOException;
import java.lang.reflect.Method;
import java.lang.reflect.Modifier;
import java.nio.file.Files;
import java.nio.file.Path;
import java.util.regex.Matcher;
import java.util.regex.Pattern;

/** README.md tells the truth: its example answers as it says, its findings are the document's, no call is left out. */
public final class ReadmeTest {
    private static final Pattern CALL = Pattern.compile("x\\.(\\w+)\\(([^)]*)\\); +// (-?\\d+): .*");
    private static final Pattern FINDING = Pattern.compile("\\| ([A-Z]+) \\| (-\\d+) \\| (\\d) \\|");
    private static final String[] FINDINGS = {"BEYOND", "FULL", "KIND", "NONE", "STATE", "MISSING", "SIZE"};

    public static void main(String[] args) throws IOException, ReflectiveOperationException {
        String readme = Files.readString(Path.of("README.md"));
        example(readme);
        findings(readme);
        everyCallIsNamed(readme);
        Due.end("ReadmeTest");
    }

    private static void example(String readme) throws ReflectiveOperationException {
        int start = readme.indexOf("```java\n");
        int end = readme.indexOf("```", start + 3);
        Due.holds("an example stands there", start >= 0 && end > start);
        String[] lines = readme.substring(start, end).split("\n");
        Due.holds("it makes an object", lines[1].equals("InkNights x = new InkNights();"));
        InkNights x = new InkNights();
        for (int i = 2; i < lines.length; i++) {
            Matcher m = CALL.matcher(lines[i]);
            boolean isCall = m.matches();
            Due.holds("a call with its answer: " + lines[i], isCall);
            if (isCall) {
                Due.is(lines[i], answer(x, m.group(1), m.group(2)), Long.parseLong(m.group(3)));
            }
        }
    }

    private static long answer(InkNights x, String name, String list) throws ReflectiveOperationException {
        String[] texts = list.isEmpty() ? new String[0] : list.split(", ");
        Class<?>[] types = new Class<?>[texts.length];
        Object[] values = new Object[texts.length];
        for (int i = 0; i < texts.length; i++) {
            boolean isLong = name.equals("write") && i == 2;
            types[i] = isLong ? long.class : int.class;
            long value = Long.decode(texts[i]);
            values[i] = isLong ? (Object) value : (Object) (int) value;
        }
        return ((Number) InkNights.class.getMethod(name, types).invoke(x, values)).longValue();
    }

    private static void findings(String readme) {
        Matcher m = FINDING.matcher(readme);
        int rows = 0;
        while (m.find()) {
            Due.holds("finding: " + m.group(), rows < FINDINGS.length && m.group(1).equals(FINDINGS[rows]));
            Due.is(m.group(1), Long.parseLong(m.group(2)), Due.BEYOND - rows);
            Due.is(m.group(1) + " in status", Long.parseLong(m.group(3)), rows);
            rows++;
        }
        Due.is("findings", rows, FINDINGS.length);
    }

    private static void everyCallIsNamed(String readme) {
        for (Method m : InkNights.class.getDeclaredMethods()) {
            if (Modifier.isPublic(m.getModifiers())) {
                Due.holds("README.md names " + m.getName(), readme.contains("`" + m.getName() + "`"));
            }
        }
    }
}
