import java.io.File;
import java.io.IOException;
import java.lang.reflect.Method;
import java.lang.reflect.Modifier;
import java.nio.charset.StandardCharsets;
import java.nio.file.Files;
import java.nio.file.Path;
import java.util.regex.Matcher;
import java.util.regex.Pattern;

/** README.md: its example answers what it says, and it names every call of the face and every test. */
public final class ReadmeTest extends Checks {
    private static final Pattern ROW = Pattern.compile("x\\.([a-z]+)\\(([^)]*)\\); +// (.*)");
    private static final Pattern ANSWER = Pattern.compile("(-?[0-9]+)(:.*)?");

    private static String exampleOf(String readme) {
        int start = readme.indexOf("```java\n");
        int end = readme.indexOf("\n```\n", start);
        return start < 0 || end < 0 ? "" : readme.substring(start + 8, end);
    }

    private static Method methodOf(String name) {
        for (Method m : SkyLeases.class.getDeclaredMethods()) {
            if (m.getName().equals(name) && Modifier.isPublic(m.getModifiers())) {
                return m;
            }
        }
        throw new IllegalArgumentException("there is no call " + name);
    }

    private static Object[] valuesOf(Method m, String list) {
        String[] words = list.isEmpty() ? new String[0] : list.split(", ");
        Object[] values = new Object[words.length];
        for (int i = 0; i < words.length; i++) {
            long v = Long.decode(words[i].replace("L", ""));
            values[i] = m.getParameterTypes()[i] == long.class ? (Object) v : (Object) Math.toIntExact(v);
        }
        return values;
    }

    private static String bytesOf(long v, int n) {
        byte[] bytes = new byte[n];
        for (int i = 0; i < n; i++) {
            bytes[i] = (byte) (v >>> 8 * (n - 1 - i));
        }
        return new String(bytes, StandardCharsets.ISO_8859_1);
    }

    private static void checkRow(SkyLeases x, String row) throws ReflectiveOperationException {
        Matcher parts = ROW.matcher(row);
        if (!parts.matches()) {
            fault("no row of the example: " + row);
            return;
        }
        Method m = methodOf(parts.group(1));
        Object[] values = valuesOf(m, parts.group(2));
        long answer = ((Number) m.invoke(x, values)).longValue();
        if (m.getName().equals("type")) {
            String said = '"' + bytesOf((Long) values[0], (Integer) values[1]) + '"';
            if (!said.equals(parts.group(3))) {
                fault("the bytes of " + row + " are " + said);
            }
            return;
        }
        Matcher said = ANSWER.matcher(parts.group(3));
        if (!said.matches()) {
            fault("no answer behind " + row);
            return;
        }
        due(row, answer, Long.parseLong(said.group(1)));
    }

    private static void checkExample(String example) throws ReflectiveOperationException {
        String[] rows = example.split("\n");
        if (!rows[0].equals("SkyLeases x = new SkyLeases();")) {
            fault("the example does not begin with a new object");
        }
        SkyLeases x = new SkyLeases();
        for (int i = 1; i < rows.length; i++) {
            checkRow(x, rows[i]);
        }
    }

    private static void checkNames(String readme) {
        for (Method m : SkyLeases.class.getDeclaredMethods()) {
            if (Modifier.isPublic(m.getModifiers()) && !readme.contains("`" + m.getName() + "`")) {
                fault("README.md does not name the call " + m.getName());
            }
        }
        File[] files = new File("src/test/java").listFiles();
        for (File file : files == null ? new File[0] : files) {
            if (!readme.contains("`" + file.getName().replace(".java", "") + "`")) {
                fault("README.md does not name " + file.getName());
            }
        }
        if (!readme.contains(".ci/run")) {
            fault("README.md does not say how to run the tests");
        }
    }

    public static void main(String[] args) throws IOException, ReflectiveOperationException {
        String readme = Files.readString(Path.of("README.md"));
        checkExample(exampleOf(readme));
        checkNames(readme);
        end();
    }
}
