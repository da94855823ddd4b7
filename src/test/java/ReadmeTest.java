import java.io.IOException;
import java.lang.reflect.InvocationTargetException;
import java.lang.reflect.Method;
import java.lang.reflect.Modifier;
import java.nio.file.Files;
import java.nio.file.Path;
import java.util.ArrayList;
import java.util.List;
import java.util.Map;
import java.util.TreeMap;
import java.util.regex.Matcher;
import java.util.regex.Pattern;

/** What README.md tells of the class, held against the class and the document. */
public final class ReadmeTest {
    private static final Check check = new Check();
    private static final Pattern EXAMPLE = Pattern.compile("(?m)^diary\\.(\\w+)\\(([^)]*)\\);\\s*// (-?\\d+):");
    private static final Pattern CODE = Pattern.compile("(?m)^\\| `([A-Z_]+)` \\| (-\\d) \\|");
    private static final Pattern CALL = Pattern.compile("(?m)^\\| `(\\w+)\\(([^)]*)\\)` \\| (C?) ?\\| [^|]* \\|([^|]*)\\|$");
    private static final Pattern PROMISE = Pattern.compile("(?s)\n`int (\\w+)\\(([^)]*)\\)`:(.*?)(?=\n## |$)");
    private static final Pattern ERROR = Pattern.compile("NO_SUCH|BAD_VALUE|BAD_TEXT|TOO_MANY|NOT_POSSIBLE");

    private ReadmeTest() { }

    public static void main(String[] args) throws IOException, ReflectiveOperationException {
        String readme = Files.readString(Path.of("README.md"));
        example(readme);
        codes(readme);
        calls(readme, Files.readString(Path.of("../shared/DOC.md")));
        check.end();
    }

    private static Map<String, Method> face() {
        Map<String, Method> face = new TreeMap<>();
        for (Method method : FloodDiary.class.getDeclaredMethods()) {
            if (Modifier.isPublic(method.getModifiers())) {
                face.put(method.getName(), method);
            }
        }
        return face;
    }

    /** Makes the calls of the example, each of which stands with its answer. */
    private static void example(String readme) throws IllegalAccessException, InvocationTargetException {
        check.about("the example");
        FloodDiary diary = new FloodDiary();
        Map<String, Method> face = face();
        Matcher line = EXAMPLE.matcher(readme);
        int lines = 0;
        while (line.find()) {
            Method method = face.get(line.group(1));
            int answer = (int) method.invoke(diary, numbers(method, line.group(2)));
            check.due(line.group(1) + "(" + line.group(2) + ")", answer, Integer.parseInt(line.group(3)));
            lines++;
        }
        check.due("calls of the example", lines, readme.split("\ndiary\\.", -1).length - 1);
        check.holds("the example has calls", lines > 0);
    }

    private static Object[] numbers(Method method, String texts) {
        List<Object> numbers = new ArrayList<>();
        for (String text : texts.split(", ")) {
            if (!text.isEmpty()) {
                boolean isLong = method.getParameterTypes()[numbers.size()] == long.class;
                numbers.add(isLong ? (Object) Long.valueOf(text) : (Object) Integer.valueOf(text));
            }
        }
        return numbers.toArray();
    }

    private static void codes(String readme) throws IllegalAccessException, NoSuchFieldException {
        check.about("the codes");
        Matcher row = CODE.matcher(readme);
        int rows = 0;
        while (row.find()) {
            check.due(row.group(1), Integer.parseInt(row.group(2)), FloodDiary.class.getField(row.group(1)).getInt(null));
            rows++;
        }
        check.due("codes", rows, 6);
    }

    private static void calls(String readme, String document) {
        check.about("the calls");
        Map<String, String> told = new TreeMap<>();
        Matcher row = CALL.matcher(readme);
        while (row.find()) {
            told.put(row.group(1), parameters(row.group(2)) + " " + !row.group(3).isEmpty() + errors(row.group(4)));
        }
        Map<String, String> due = new TreeMap<>();
        Matcher promise = PROMISE.matcher(document);
        while (promise.find()) {
            String text = promise.group(3);
            due.put(promise.group(1),
                parameters(promise.group(2)) + " " + isChange(text) + errors(text));
        }
        check.holds("the calls of README.md are those of the class, not " + told.keySet(), told.keySet().equals(face().keySet()));
        for (String call : due.keySet()) {
            check.holds(call + " is told as " + told.get(call) + ", not as " + due.get(call),
                due.get(call).equals(told.get(call)));
        }
        check.due("calls of the document", due.size(), 24);
    }

    private static boolean isChange(String text) {
        return text.contains("This is a change");
    }

    private static String parameters(String texts) {
        return texts.replaceAll("\\b(int|long) ", "");
    }

    private static String errors(String text) {
        StringBuilder errors = new StringBuilder();
        Matcher error = ERROR.matcher(text);
        while (error.find()) {
            errors.append(' ').append(error.group());
        }
        return errors.toString();
    }
}
