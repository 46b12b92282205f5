import java.lang.reflect.Method;
import java.lang.reflect.Modifier;
import java.nio.charset.StandardCharsets;
import java.nio.file.Files;
import java.nio.file.Path;
import java.util.ArrayList;
import java.util.List;
import java.util.regex.Matcher;
import java.util.regex.Pattern;

/** README.md's example is made call by call, and its tables must name every call and every refusal. */
public final class ReadmeTest {
    private static final Pattern CALL = Pattern.compile("x\\.(\\w+)\\(([^)]*)\\); +// (-?\\d+)(:.*)?");
    private static final Pattern TEXT = Pattern.compile("feedText\\(x, \"([^\"]*)\"\\);");

    private static PigRounds x = null;

    private ReadmeTest() {
    }

    public static void main(String[] args) throws Exception {
        List<String> lines = Files.readAllLines(Path.of("README.md"), StandardCharsets.UTF_8);
        for (String line : exampleOf(lines)) {
            make(line);
        }
        everyCallIsInTheExample(exampleOf(lines));
        everyCallHasARow(lines);
        everyRefusalHasARow(lines);
        Due.end();
    }

    /** The first block of Java. */
    private static List<String> exampleOf(List<String> lines) {
        int begin = lines.indexOf("```java") + 1;
        List<String> behind = lines.subList(begin, lines.size());
        return behind.subList(0, Math.max(0, behind.indexOf("```")));
    }

    private static void make(String line) throws Exception {
        Matcher call = CALL.matcher(line);
        Matcher text = TEXT.matcher(line);
        if (line.equals("PigRounds x = new PigRounds();")) {
            x = new PigRounds();
        } else if (text.matches()) {
            Due.feedText(x, text.group(1));
        } else if (call.matches()) {
            Due.due("README.md: " + line, answerTo(call.group(1), call.group(2)), Long.parseLong(call.group(3)));
        } else if (!line.isEmpty() && !line.startsWith("//")) {
            Due.due("README.md has a line that is no call with its answer: " + line, 0, 1);
        }
    }

    private static long answerTo(String name, String numbers) throws Exception {
        Method method = methodNamed(name);
        if (method == null) {
            return Long.MIN_VALUE;
        }
        List<Object> taken = new ArrayList<>();
        for (String number : numbers.isEmpty() ? new String[0] : numbers.split(", ")) {
            boolean isLong = method.getParameterTypes()[taken.size()] == long.class;
            taken.add(isLong ? (Object) Long.decode(number.replace("L", "")) : (Object) Integer.decode(number));
        }
        return (Integer) method.invoke(x, taken.toArray());
    }

    private static Method methodNamed(String name) {
        for (Method method : calls()) {
            if (method.getName().equals(name)) {
                return method;
            }
        }
        return null;
    }

    private static List<Method> calls() {
        List<Method> calls = new ArrayList<>();
        for (Method method : PigRounds.class.getDeclaredMethods()) {
            if (Modifier.isPublic(method.getModifiers())) {
                calls.add(method);
            }
        }
        return calls;
    }

    private static void everyCallIsInTheExample(List<String> example) {
        for (Method method : calls()) {
            boolean there = example.stream().anyMatch(line -> line.startsWith("x." + method.getName() + "("));
            Due.due("README.md's example makes " + method.getName(), there ? 1 : 0, 1);
        }
    }

    private static void everyCallHasARow(List<String> lines) {
        for (Method method : calls()) {
            String begin = "| `" + method.getName() + "(";
            String row = lines.stream().filter(line -> line.startsWith(begin)).findFirst().orElse("| `none()` |");
            String numbers = row.substring(row.indexOf('(') + 1, row.indexOf(')'));
            int taken = numbers.isEmpty() ? 0 : numbers.split(", ").length;
            boolean told = row.startsWith(begin) && taken == method.getParameterCount();
            Due.due("README.md has a row for " + method.getName() + " with its numbers", told ? 1 : 0, 1);
        }
    }

    private static void everyRefusalHasARow(List<String> lines) {
        int[] refusals = {PigRounds.BAD, PigRounds.STATE, PigRounds.FULL,
            -1000011, -1000012, -1000013, -1000014, -1000015, -1000100};
        for (int refusal : refusals) {
            boolean there = lines.stream().anyMatch(line -> line.startsWith("| " + refusal + " "));
            Due.due("README.md has a row for the refusal " + refusal, there ? 1 : 0, 1);
        }
    }
}
