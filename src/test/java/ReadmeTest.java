import java.io.IOException;
import java.lang.reflect.InvocationTargetException;
import java.lang.reflect.Method;
import java.lang.reflect.Modifier;
import java.nio.file.Files;
import java.nio.file.Path;
import java.util.ArrayList;
import java.util.Arrays;
import java.util.List;
import java.util.regex.Matcher;
import java.util.regex.Pattern;

/** README.md tells the truth: its calls, made in their order on one object, answer what stands behind them. */
public final class ReadmeTest {
    private static final Pattern TEXT = Pattern.compile("x\\.(\\w+)\\(feed\\(x, \"([^\"]*)\"\\)\\);\\s+// (\\S+?):?(\\s.*)?");
    private static final Pattern CALL = Pattern.compile("x\\.(\\w+)\\(([-0-9, ]*)\\);\\s+// (\\S+?):?(\\s.*)?");

    public static void main(String[] args) throws IOException, ReflectiveOperationException {
        List<String> lines = Files.readAllLines(Path.of("README.md"));
        callsAnswer(lines);
        helperIsTheTestsOwn(lines);
        everyCallIsNamed(String.join("\n", lines));
        Check.end();
    }

    private static void callsAnswer(List<String> lines) throws ReflectiveOperationException {
        DebtMiller x = new DebtMiller();
        int calls = 0;
        for (String line : lines) {
            if (!line.startsWith("x.")) {
                continue;
            }
            calls++;
            Matcher text = TEXT.matcher(line);
            Matcher call = CALL.matcher(line);
            if (text.matches()) {
                int n = Check.feed(x, text.group(2));
                said(line, answer(x, text.group(1), new Object[] {n}), text.group(3));
            } else if (call.matches()) {
                said(line, answer(x, call.group(1), numbers(call.group(2))), call.group(3));
            } else {
                Check.tell("a line of README.md that can't be read: " + line);
            }
        }
        Check.due("calls in README.md are seen", calls > 30, true);
    }

    private static void said(String line, String got, String want) {
        if (!got.equals(want)) {
            Check.tell("README.md: " + line + " answers " + got);
        }
    }

    private static Object[] numbers(String list) {
        List<Object> numbers = new ArrayList<>();
        for (String number : list.isEmpty() ? new String[0] : list.split(", ")) {
            numbers.add(Integer.parseInt(number));
        }
        return numbers.toArray();
    }

    private static String answer(DebtMiller x, String name, Object[] numbers) throws ReflectiveOperationException {
        Class<?>[] types = new Class<?>[numbers.length];
        Arrays.fill(types, int.class);
        Method method = DebtMiller.class.getMethod(name, types);
        try {
            return method.invoke(x, numbers).toString();
        } catch (InvocationTargetException e) {
            return e.getCause().getClass().getSimpleName();
        }
    }

    /** The helper of README.md is the one by which the tests feed, so that it is run as well. */
    private static void helperIsTheTestsOwn(List<String> lines) throws IOException {
        String check = Files.readString(Path.of("src/test/java/Check.java"));
        int from = lines.indexOf("static int feed(DebtMiller x, String text) {");
        Check.due("the helper stands in README.md", from > 0, true);
        for (int i = from; i > 0 && !lines.get(i).equals("```"); i++) {
            if (!lines.get(i).isEmpty() && !check.contains("\n    " + lines.get(i) + "\n")) {
                Check.tell("README.md: Check.java has no line " + lines.get(i));
            }
        }
    }

    private static void everyCallIsNamed(String readme) {
        for (Method method : DebtMiller.class.getDeclaredMethods()) {
            if (Modifier.isPublic(method.getModifiers())
                    && !readme.matches("(?s).*(`|x\\.)" + method.getName() + "\\b.*")) {
                Check.tell("README.md does not name " + method.getName());
            }
        }
    }
}
