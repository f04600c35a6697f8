import java.io.IOException;
import java.lang.reflect.Method;
import java.lang.reflect.Modifier;
import java.nio.file.Files;
import java.nio.file.Path;
import java.util.TreeSet;
import java.util.regex.Matcher;
import java.util.regex.Pattern;

/** Does the calls that README.md shows, one behind the other, and compares what stands behind each of them. */
public final class ReadmeTest {
    private static final String NEW_OBJECT = "ClothSchool x = new ClothSchool();";
    private static final Pattern CALL = Pattern.compile("^x\\.(\\w+)\\((.*?)\\); +// (-?\\d+|true|false)(:.*)?$");
    private static final int MOST_CALLS = 512;

    private static final TreeSet<String> SHOWN = new TreeSet<>();
    private static ClothSchool school = null;
    private static int calls = 0;

    public static void main(String[] args) throws IOException, ReflectiveOperationException {
        boolean isCode = false;
        for (String line : Files.readAllLines(Path.of("README.md"))) {
            if (line.startsWith("```")) {
                isCode = line.equals("```java");
            } else if (isCode) {
                take(line);
            }
        }
        for (Method m : ClothSchool.class.getDeclaredMethods()) {
            if (Modifier.isPublic(m.getModifiers())) {
                Due.is("README shows " + m.getName(), true, SHOWN.contains(m.getName()));
            }
        }
        Due.is("README's calls are no more than an object is used for", true, calls <= MOST_CALLS);
        Due.close();
    }

    private static void take(String line) throws ReflectiveOperationException {
        Matcher m = CALL.matcher(line);
        if (line.equals(NEW_OBJECT)) {
            school = new ClothSchool();
            calls = 0;
        } else {
            boolean readable = school != null && m.matches();
            Due.is("README's line is a call with its answer: " + line, true, readable);
            if (readable) {
                call(line, m.group(1), m.group(2), m.group(3));
            }
        }
    }

    private static void call(String line, String name, String told, String due) throws ReflectiveOperationException {
        String[] words = told.isEmpty() ? new String[0] : told.split(", ");
        Class<?>[] types = new Class<?>[words.length];
        Object[] values = new Object[words.length];
        for (int i = 0; i < words.length; i++) {
            types[i] = int.class;
            values[i] = (int) Long.decode(words[i]).longValue();
        }
        Object answer = ClothSchool.class.getMethod(name, types).invoke(school, values);
        SHOWN.add(name);
        calls++;
        if (answer instanceof Boolean) {
            Due.is(line, due.equals("true") ? 1 : due.equals("false") ? 0 : 2, (Boolean) answer ? 1 : 0);
        } else {
            boolean isNumber = !due.equals("true") && !due.equals("false");
            Due.is(line, true, isNumber);
            Due.is(line, isNumber ? Long.parseLong(due) : 0, (Integer) answer);
        }
    }
}
