import java.lang.reflect.Method;
import java.lang.reflect.Modifier;
import java.nio.file.Files;
import java.nio.file.Path;
import java.util.HashMap;
import java.util.List;
import java.util.Map;
import java.util.StringJoiner;
import java.util.TreeSet;
import java.util.regex.Matcher;
import java.util.regex.Pattern;

/** README.md: it has a row for each call of the face, and its example's calls answer what is told behind them. */
public final class ReadmeTest {
    private static final Due DUE = new Due();
    private static final String NEW_TAPE = "DemoTape tape = new DemoTape();";
    private static final Pattern CALL = Pattern.compile("tape\\.(\\w+)\\((.*?)\\);(?: +// (-?\\w+).*)?");

    public static void main(String[] args) throws Exception {
        List<String> lines = Files.readAllLines(Path.of("README.md"));
        Map<String, Method> face = face();
        TreeSet<String> called = exampleAnswersAsTold(lines, face);
        for (Method method : face.values()) {
            DUE.yes(method.getName() + " stands in the example", called.contains(method.getName()));
            DUE.is("rows of " + method.getName(), rowsOf(lines, method), 1);
        }
        DUE.yes("the command that runs the tests is told", lines.contains(".ci/run"));
        DUE.finish();
    }

    private static Map<String, Method> face() {
        Map<String, Method> face = new HashMap<>();
        for (Method method : DemoTape.class.getDeclaredMethods()) {
            if (Modifier.isPublic(method.getModifiers())) {
                face.put(method.getName(), method);
            }
        }
        return face;
    }

    private static int rowsOf(List<String> lines, Method method) {
        StringJoiner parameters = new StringJoiner(", ");
        for (Class<?> type : method.getParameterTypes()) {
            parameters.add(type + " \\w+");
        }
        Pattern row = Pattern.compile(
                "\\| `" + method.getReturnType() + " " + method.getName() + "\\(" + parameters + "\\)` \\|.*");
        int rows = 0;
        for (String line : lines) {
            rows += row.matcher(line).matches() ? 1 : 0;
        }
        return rows;
    }

    /** The names of the calls that the example makes. */
    private static TreeSet<String> exampleAnswersAsTold(List<String> lines, Map<String, Method> face)
            throws ReflectiveOperationException {
        TreeSet<String> called = new TreeSet<>();
        int from = lines.indexOf(NEW_TAPE);
        DUE.yes("the example makes an object", from >= 0);
        DemoTape tape = new DemoTape();
        for (int k = from + 1; k < lines.size() && !lines.get(k).equals("```"); k++) {
            if (!lines.get(k).isEmpty()) {
                called.add(dueAsTold(tape, lines.get(k), face));
            }
        }
        return called;
    }

    private static String dueAsTold(DemoTape tape, String line, Map<String, Method> face)
            throws ReflectiveOperationException {
        Matcher call = CALL.matcher(line);
        Method method = call.matches() ? face.get(call.group(1)) : null;
        DUE.yes("a call of the face: " + line, method != null);
        if (method == null) {
            return "";
        }
        Object answer = method.invoke(tape, arguments(method, call.group(2)));
        if (method.getReturnType() != void.class) {
            String told = "NONE".equals(call.group(3)) ? "-1" : String.valueOf(call.group(3));
            DUE.same(line, String.valueOf(answer), told);
        }
        return method.getName();
    }

    private static Object[] arguments(Method method, String text) {
        String[] parts = text.isEmpty() ? new String[0] : text.split(", ");
        Object[] arguments = new Object[parts.length];
        for (int k = 0; k < parts.length; k++) {
            Class<?> type = method.getParameterTypes()[k];
            if (type == boolean.class) {
                arguments[k] = Boolean.valueOf(parts[k]);
            } else if (type == long.class) {
                arguments[k] = Long.decode(parts[k].replace("L", ""));
            } else {
                arguments[k] = Integer.decode(parts[k]);
            }
        }
        return arguments;
    }
}
