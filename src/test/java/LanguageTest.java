import java.io.IOException;
import java.lang.reflect.Field;
import java.lang.reflect.Method;
import java.lang.reflect.Modifier;
import java.nio.file.Files;
import java.nio.file.Path;
import java.util.ArrayList;
import java.util.HashSet;
import java.util.List;
import java.util.Set;
import java.util.regex.Pattern;

/** Those rules of LANGUAGE.md that can be seen from the source and the classes without much ado. */
public final class LanguageTest {
    private static final String SOURCE = "src/main/java/Inodery.java";
    private static final String[] RULED_OUT = {
        "\\bimport\\b", "\\bpackage\\b", "->", "::", "\\bsynchronized\\b", "\\bassert\\b", "\\bfinally\\b", "\\bcatch\\b",
        "\\btry\\b", "\\bMath\\.\\w+Exact", "\\b(double|float) ", "\\bequals\\b", "\\bhashCode\\b", "\\btoString\\b",
        "\\b(Object|Map|Set|Random|System\\.(?!arraycopy))\\b", "[^\\x00-\\x7e]", "\"[^\"]*\" \\+", "\\+ \""
    };
    private static final int MOST_LINES = 60;
    private static final int MOST_CLASSES = 12;
    private static final int MOST_FIELDS = 20;
    private static final int MOST_PARAMETERS = 7;

    public static void main(String[] args) throws IOException {
        Due due = new Due("LanguageTest");
        String source = Files.readString(Path.of(SOURCE)).replaceAll("(?s)/\\*.*?\\*/|//[^\n]*", "");
        due.about("what is ruled out");
        for (String pattern : RULED_OUT) {
            due.isFalse(Pattern.compile(pattern).matcher(source).find());
        }
        checkThrows(due, source);
        checkMakes(due, source);
        checkLengths(due, source);
        checkClasses(due);
        due.end();
    }

    private static void checkThrows(Due due, String source) {
        due.about("throws");
        int all = source.split("\\bthrow\\b", -1).length;
        String written = "\\bthrow new (IllegalState|IllegalArgument|IndexOutOfBounds)Exception\\(\"[^\"]*\"\\);";
        due.is(all, () -> source.split(written, -1).length);
    }

    /** Rows are made with the object alone, so that calls take no room. */
    private static void checkMakes(Due due, String source) {
        due.about("what is made");
        Pattern ofField = Pattern.compile(" +private final [\\w\\[\\]]+ \\w+ = new \\w+(\\(\\)|\\[[A-Z_ *]+\\]);");
        for (String line : source.split("\n")) {
            boolean makes = line.contains("new ") && !line.contains("throw new ");
            due.isTrue(!makes || ofField.matcher(line).matches() || line.equals("            snapshots[i] = new Tree();"));
        }
    }

    /** Counts from a line that opens a method to the line that closes it with the same indentation. */
    private static void checkLengths(Due due, String source) {
        due.about("lengths");
        Pattern opens = Pattern.compile("( {4}| {8})(?!private static final class)[a-z][\\w\\[\\] ]* ?\\w+\\(.*");
        String[] lines = source.split("\n");
        int methods = 0;
        for (int i = 0; i < lines.length; i++) {
            if (opens.matcher(lines[i]).matches() && !lines[i].endsWith(";")) {
                String end = lines[i].substring(0, lines[i].length() - lines[i].stripLeading().length()) + "}";
                int length = 1;
                while (i + length < lines.length && !lines[i + length].equals(end)) length++;
                due.isTrue(length < MOST_LINES);
                methods++;
            }
        }
        due.isTrue(methods > 38);
    }

    private static void checkClasses(Due due) {
        due.about("classes");
        List<Class<?>> classes = new ArrayList<>(List.of(Inodery.class.getDeclaredClasses()));
        for (Class<?> inside : classes) {
            due.isTrue(Modifier.isStatic(inside.getModifiers()) && !Modifier.isPublic(inside.getModifiers()));
        }
        classes.add(Inodery.class);
        due.isTrue(classes.size() <= MOST_CLASSES);
        Set<String> face = new HashSet<>();
        for (Method method : Inodery.class.getMethods()) {
            face.add(method.getName());
        }
        for (Class<?> each : classes) {
            checkMembers(due, each, face);
        }
    }

    private static void checkMembers(Due due, Class<?> each, Set<String> face) {
        int fields = 0;
        for (Field field : each.getDeclaredFields()) {
            boolean isStatic = Modifier.isStatic(field.getModifiers());
            due.isTrue(!isStatic || (Modifier.isFinal(field.getModifiers()) && field.getType() == int.class));
            if (!isStatic) fields++;
        }
        due.isTrue(fields <= MOST_FIELDS);
        for (Method method : each.getDeclaredMethods()) {
            due.isTrue(method.getParameterCount() <= MOST_PARAMETERS);
            due.isTrue(Modifier.isPublic(method.getModifiers()) || !face.contains(method.getName()));
        }
    }
}
