import java.lang.reflect.Method;
import java.lang.reflect.Modifier;
import java.nio.file.Files;
import java.nio.file.Path;
import java.util.TreeSet;
import java.util.regex.Matcher;
import java.util.regex.Pattern;

/** README.md's example is run as it stands there, so that it can't tell what the class does not do. */
public final class ReadmeTest {
    private static final Pattern CALL = Pattern.compile("desk\\.(\\w+)\\(([^)]*)\\); +// ([^ :]+).*");

    private final DatumDesk desk = new DatumDesk();
    private final TreeSet<String> shown = new TreeSet<>();

    public static void main(String[] args) throws Exception {
        String readme = Files.readString(Path.of("README.md"));
        new ReadmeTest().runExample(readme);
        everyCallHasARow(readme);
        Check.finish();
    }

    private void runExample(String readme) throws Exception {
        int from = readme.indexOf("```java\n");
        int to = readme.indexOf("\n```", from + 1);
        Check.due("README.md has an example", from >= 0 && to > from, true);
        for (String line : readme.substring(from + 8, to).split("\n")) {
            Matcher call = CALL.matcher(line);
            if (call.matches()) {
                runLine(line, call);
            } else {
                Check.due("a line of the example", line, "DatumDesk desk = new DatumDesk();");
            }
        }
        Check.due("the calls in the example", shown.toString(), face().toString());
    }

    private void runLine(String line, Matcher call) throws Exception {
        Method method = methodOf(call.group(1));
        Class<?>[] types = method.getParameterTypes();
        String[] given = call.group(2).isEmpty() ? new String[0] : call.group(2).split(", ");
        Object[] arguments = new Object[types.length];
        for (int i = 0; i < types.length; i++) {
            long number = Long.decode(given[i].replace("L", ""));
            if (types[i] == long.class) {
                arguments[i] = number;
            } else {
                arguments[i] = (int) number;
            }
        }
        Object answer = method.invoke(desk, arguments);
        shown.add(method.getName());
        if (answer instanceof Boolean) {
            Check.due(line, answer.toString(), call.group(3));
        } else {
            Check.due(line, ((Number) answer).longValue(), Long.decode(call.group(3)));
        }
    }

    private static Method methodOf(String name) {
        for (Method method : DatumDesk.class.getMethods()) {
            if (method.getName().equals(name) && method.getDeclaringClass() == DatumDesk.class) {
                return method;
            }
        }
        throw new IllegalArgumentException("README.md calls " + name + ", which is not of the face");
    }

    private static TreeSet<String> face() {
        TreeSet<String> names = new TreeSet<>();
        for (Method method : DatumDesk.class.getDeclaredMethods()) {
            if (Modifier.isPublic(method.getModifiers())) {
                names.add(method.getName());
            }
        }
        return names;
    }

    private static void everyCallHasARow(String readme) {
        for (Method method : DatumDesk.class.getDeclaredMethods()) {
            if (Modifier.isPublic(method.getModifiers())) {
                String row = "\n| `" + method.getReturnType() + " " + method.getName() + "(";
                Check.due("a row for " + method.getName(), readme.contains(row), true);
            }
        }
    }
}
