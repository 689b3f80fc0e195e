import java.lang.reflect.Method;
import java.lang.reflect.Modifier;
import java.nio.file.Files;
import java.nio.file.Path;
import java.util.Set;
import java.util.TreeSet;
import java.util.regex.Matcher;
import java.util.regex.Pattern;

/** The examples of README.md: all of them are one run, each with the answer that stands behind it. */
public final class ReadmeTest {
    private static final Pattern EXAMPLE = Pattern.compile("(?m)^paper\\.(\\w+)\\((.*?)\\);\\s+// (-?\\d+)\\b");
    private static final Pattern CALL = Pattern.compile("(?m)^paper\\.");

    public static void main(String[] args) throws Exception {
        String text = Files.readString(Path.of("README.md"));
        EarPaper paper = new EarPaper();
        Set<String> shown = new TreeSet<>();
        int examples = 0;
        Matcher found = EXAMPLE.matcher(text);
        while (found.find()) {
            long answer = answerOf(paper, found.group(1), found.group(2));
            Due.holds(found.group() + ": answered " + answer, answer == Long.parseLong(found.group(3)));
            shown.add(found.group(1));
            examples++;
        }
        Due.holds("each call of README.md tells its answer", CALL.matcher(text).results().count() == examples);
        for (Method one : EarPaper.class.getDeclaredMethods()) {
            if (Modifier.isPublic(one.getModifiers())) {
                Due.holds("README.md shows " + one.getName(), shown.contains(one.getName()));
            }
        }
        Due.end();
    }

    private static long answerOf(EarPaper paper, String name, String told) throws Exception {
        String[] parts = told.isEmpty() ? new String[0] : told.split(", ");
        for (Method one : EarPaper.class.getMethods()) {
            if (one.getName().equals(name) && one.getParameterCount() == parts.length) {
                Object[] values = new Object[parts.length];
                for (int i = 0; i < parts.length; i++) {
                    values[i] = valueOf(one.getParameterTypes()[i], parts[i]);
                }
                return ((Number) one.invoke(paper, values)).longValue();
            }
        }
        throw new IllegalStateException("no such call: " + name + "(" + told + ")");
    }

    private static Object valueOf(Class<?> kind, String told) {
        if (kind == boolean.class) {
            return Boolean.valueOf(told);
        }
        return kind == long.class ? Long.decode(told.replace("L", "")) : (Object) Integer.decode(told);
    }
}
