import java.io.IOException;
import java.lang.reflect.InvocationTargetException;
import java.lang.reflect.Method;
import java.lang.reflect.Modifier;
import java.nio.file.Files;
import java.nio.file.Path;
import java.util.List;
import java.util.regex.Matcher;
import java.util.regex.Pattern;

// What README.md tells of the class: each call of its example answers what stands behind it, the
// example and the table leave no call of the face out.
public final class ReadmeHolds {
    private static final Pattern CALL = Pattern.compile("book\\.(\\w+)\\((.*)\\); +// ([^: ]+)(: .+)?");
    private static final String FIRST = "TideBook book = new TideBook();";

    private static int wrong = 0;

    private static void wrong(String line) {
        wrong++;
        System.out.println(line);
    }

    private static Method methodOf(String name) {
        for (Method method : TideBook.class.getDeclaredMethods()) {
            if (Modifier.isPublic(method.getModifiers()) && method.getName().equals(name)) {
                return method;
            }
        }
        return null;
    }

    private static Object[] valuesOf(String args, Class<?>[] types) {
        String[] texts = args.isEmpty() ? new String[0] : args.split(", ");
        if (texts.length != types.length) {
            return null;
        }
        Object[] values = new Object[texts.length];
        for (int i = 0; i < texts.length; i++) {
            values[i] = types[i] == boolean.class ? (Object) Boolean.valueOf(texts[i]) : Integer.valueOf(texts[i]);
        }
        return values;
    }

    private static void call(TideBook book, String line) throws IllegalAccessException, InvocationTargetException {
        Matcher parts = CALL.matcher(line);
        Method method = parts.matches() ? methodOf(parts.group(1)) : null;
        Object[] values = method == null ? null : valuesOf(parts.group(2), method.getParameterTypes());
        if (values == null) {
            wrong("no call of the face with its answer: " + line);
            return;
        }
        String got = String.valueOf(method.invoke(book, values));
        if (!got.equals(parts.group(3))) {
            wrong("answered " + got + ": " + line);
        }
    }

    private static List<String> exampleOf(List<String> lines) {
        int from = lines.indexOf("```java");
        int count = from < 0 ? -1 : lines.subList(from, lines.size()).indexOf("```");
        return count < 2 ? List.of() : lines.subList(from + 1, from + count);
    }

    public static void main(String[] args) throws IOException, IllegalAccessException, InvocationTargetException {
        List<String> lines = Files.readAllLines(Path.of("README.md"));
        List<String> example = exampleOf(lines);
        if (example.isEmpty() || !example.get(0).equals(FIRST)) {
            wrong("README.md has no example that begins with a new book");
        } else {
            TideBook book = new TideBook();
            for (String line : example.subList(1, example.size())) {
                call(book, line);
            }
        }
        for (Method method : TideBook.class.getDeclaredMethods()) {
            if (Modifier.isPublic(method.getModifiers())) {
                String name = method.getName() + "(";
                if (lines.stream().noneMatch(line -> line.startsWith("|") && line.contains("`" + name))) {
                    wrong("README.md's table leaves out " + name + "..)");
                }
                if (example.stream().noneMatch(line -> line.startsWith("book." + name))) {
                    wrong("README.md's example leaves out " + name + "..)");
                }
            }
        }
        System.out.println(wrong == 0 ? "README.md holds" : "README.md does not hold");
        if (wrong != 0) {
            System.exit(1);
        }
    }
}
