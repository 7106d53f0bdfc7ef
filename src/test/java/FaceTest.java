import java.lang.reflect.Constructor;
import java.lang.reflect.Field;
import java.lang.reflect.Method;
import java.lang.reflect.Modifier;
import java.util.Arrays;
import java.util.Map;
import java.util.TreeMap;

/** The public face: the class, its constants, its constructor and its methods with their throws clauses. */
public final class FaceTest {
    private static final String[] METHODS = {
        "int user(int) I", "int file(int,int) AIS", "int folder(int,int) AIS", "int link(int,int) AIS",
        "int hard(int,int) AIS", "int rename(int,int) AIS", "boolean remove(int) AIS", "int rights(int,int) AIS",
        "int own(int,int) AIS", "int look(int,boolean) AI", "int open(int,boolean) AIS", "boolean close(int) IS",
        "int write(int,int,int) IAS", "int read(int,int) IS", "int ahead(int,int,int) IAS", "int cut(int,int) IS",
        "int lock(int,int,int,boolean) IAS", "int unlock(int,int,int) IAS", "int lockOf(int,int) I",
        "int flush(int) A", "boolean sync(int) IS", "int commit() ", "int crash() ", "int snapshot() S",
        "int drop(int) I", "int readOld(int,int,int) AIS", "int quota(int,int) IA", "boolean bad(int,boolean) I",
        "void damage(int,int,int) AIS", "int check() S", "int about(int,int) IA", "int entry(int,int) I",
        "int target(int) I", "int page(int,int,int) IA", "int number(int) I", "boolean isFree(int) I",
        "int used(int) I", "int dirty() "
    };

    public static void main(String[] args) throws IllegalAccessException {
        Due due = new Due("FaceTest");
        checkClass(due);
        checkConstants(due);
        checkMethods(due);
        due.end();
    }

    private static void checkClass(Due due) {
        due.about("class");
        due.is(Modifier.PUBLIC | Modifier.FINAL, () -> Inodery.class.getModifiers());
        due.is(1, () -> Inodery.class.getDeclaredConstructors().length);
        Constructor<?> made = Inodery.class.getDeclaredConstructors()[0];
        due.is(0, () -> made.getParameterCount());
        due.is(Modifier.PUBLIC, () -> made.getModifiers());
        due.is(0, () -> Inodery.class.getClasses().length);
    }

    private static void checkConstants(Due due) throws IllegalAccessException {
        due.about("constants");
        Map<String, Integer> wanted = new TreeMap<>();
        wanted.put("NONE", -1);
        wanted.put("FILE", 0);
        wanted.put("FOLDER", 1);
        wanted.put("LINK", 2);
        wanted.put("HOLE", 0);
        wanted.put("AHEAD", 1);
        wanted.put("WRITTEN", 2);
        Map<String, Integer> found = new TreeMap<>();
        for (Field field : Inodery.class.getDeclaredFields()) {
            if (!Modifier.isPrivate(field.getModifiers())) {
                due.is(Modifier.PUBLIC | Modifier.STATIC | Modifier.FINAL, () -> field.getModifiers());
                found.put(field.getName(), field.getInt(null));
            }
        }
        due.isTrue(wanted.equals(found));
    }

    private static void checkMethods(Due due) {
        due.about("methods");
        Map<String, Boolean> found = new TreeMap<>();
        for (Method method : Inodery.class.getDeclaredMethods()) {
            if (!Modifier.isPrivate(method.getModifiers())) {
                due.is(Modifier.PUBLIC, () -> method.getModifiers());
                found.put(textOf(method), true);
            }
        }
        due.is(METHODS.length, () -> found.size());
        for (String method : METHODS) {
            due.isTrue(found.containsKey(method));
        }
    }

    private static String textOf(Method method) {
        StringBuilder text = new StringBuilder();
        text.append(method.getReturnType()).append(' ').append(method.getName()).append('(');
        text.append(String.join(",", Arrays.stream(method.getParameterTypes()).map(Class::getName).toList()));
        text.append(") ");
        for (Class<?> kind : method.getExceptionTypes()) {
            text.append(kind == Due.ARGUMENT ? 'A' : kind == Due.INDEX ? 'I' : kind == Due.STATE ? 'S' : '?');
        }
        return text.toString();
    }
}
