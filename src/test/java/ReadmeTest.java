import java.io.IOException;
import java.lang.reflect.InvocationTargetException;
import java.lang.reflect.Method;
import java.nio.file.Files;
import java.nio.file.Path;
import java.util.HashMap;
import java.util.List;
import java.util.Map;
import java.util.regex.Matcher;
import java.util.regex.Pattern;

/** README.md: its example answers as it says, and it names every call and every test. */
public final class ReadmeTest {
    private static final Pattern LINE = Pattern.compile("(?:int (\\w+) = )?disk\\.(\\w+)\\((.*)\\); *// (\\w+)\\b.*");
    private static final Path TESTS = Path.of("src/test/java");

    private final Inodery disk = new Inodery();
    private final Map<String, Object> known = new HashMap<>(Map.of("true", true, "false", false, "Inodery.NONE", -1));

    public static void main(String[] args) throws IOException {
        Due due = new Due("ReadmeTest");
        String text = Files.readString(Path.of("README.md"));
        new ReadmeTest().checkExample(due, text);
        checkCalls(due, text);
        checkTests(due, text);
        due.end();
    }

    private void checkExample(Due due, String text) {
        due.about("example");
        List<String> lines = text.split("```(java)?\n")[1].lines().toList();
        due.isTrue(lines.get(0).equals("Inodery disk = new Inodery();"));
        for (String line : lines.subList(1, lines.size())) {
            Matcher matcher = LINE.matcher(line);
            boolean isCall = matcher.matches();
            due.isTrue(isCall);
            if (isCall) checkLine(due, matcher);
        }
    }

    /** Compares an answer with the first word behind the call; a call that answers nothing has none. */
    private void checkLine(Due due, Matcher line) {
        Object answer = answerOf(line.group(2), line.group(3).split(", "));
        if (line.group(1) != null) known.put(line.group(1), answer);
        due.isTrue(answer == null || String.valueOf(answer).equals(line.group(4)));
    }

    private Object answerOf(String call, String[] arguments) {
        for (Method method : Inodery.class.getDeclaredMethods()) {
            if (method.getName().equals(call)) {
                Object[] given = new Object[method.getParameterCount()];
                for (int i = 0; i < given.length; i++) {
                    given[i] = known.containsKey(arguments[i]) ? known.get(arguments[i]) : Integer.valueOf(arguments[i]);
                }
                return answerOf(method, given);
            }
        }
        return "no such call";
    }

    private Object answerOf(Method method, Object[] given) {
        try {
            return method.invoke(disk, given);
        } catch (IllegalAccessException | InvocationTargetException e) {
            return String.valueOf(e.getCause());
        }
    }

    private static void checkCalls(Due due, String text) {
        due.about("calls");
        String table = text.substring(text.indexOf("| calls |"), text.indexOf("| test |"));
        for (Method method : Inodery.class.getMethods()) {
            if (method.getDeclaringClass() == Inodery.class) {
                due.isTrue(Pattern.compile("(?m)^\\|[\\w, ]*\\b" + method.getName() + "\\b[\\w, ]*\\|").matcher(table).find());
            }
        }
    }

    private static void checkTests(Due due, String text) throws IOException {
        due.about("tests");
        try (var files = Files.newDirectoryStream(TESTS, "*Test.java")) {
            for (Path file : files) {
                due.isTrue(text.contains("| " + file.getFileName().toString().replace(".java", "") + " |"));
            }
        }
    }
}
