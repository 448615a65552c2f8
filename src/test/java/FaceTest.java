import java.lang.reflect.Constructor;
import java.lang.reflect.Field;
import java.lang.reflect.Method;
import java.lang.reflect.Modifier;
import java.util.HashSet;
import java.util.Set;
import java.util.TreeSet;

/** The class shows the face that the document prints, with its exceptions, and nothing else. */
public final class FaceTest {
    private static final String I = "IndexOutOfBoundsException";
    private static final String A = "IllegalArgumentException";
    private static final String S = "IllegalStateException";
    private static final String[] FACE = {
        "int addPlace() " + S,
        "int setMinutes(int int int) " + I + " " + A,
        "boolean setTip(int int boolean) " + I + " " + A,
        "boolean setHoliday(int boolean) " + I,
        "int pass(int) " + A + " " + S,
        "int today()",
        "int nextWorkday()",
        "int addBin(int int int int) " + I + " " + A + " " + S,
        "int setGrowth(int int) " + I + " " + A,
        "boolean soil(int) " + I,
        "int binCount()",
        "int bin(int int) " + I,
        "int expected(int int) " + I + " " + A,
        "int fullOn(int) " + I,
        "int planSize(int) " + I,
        "int planned(int int) " + I,
        "int collect(int int) " + I + " " + A + " " + S,
        "int fetch(int int) " + I + " " + A + " " + S,
        "int wouldTake(int int) " + I + " " + A,
        "long total(int int) " + I,
        "long wasted(int) " + I,
        "double error()",
        "long digest()",
    };

    public static void main(String[] args) {
        Check check = new Check();
        Class<?> face = RefusePlanner.class;
        check.due("modifiers", face.getModifiers(), Modifier.PUBLIC | Modifier.FINAL);
        Set<String> shown = new TreeSet<>();
        Set<String> publicNames = new HashSet<>();
        for (Method m : face.getDeclaredMethods()) {
            if (!Modifier.isPrivate(m.getModifiers())) {
                check.due("modifiers of " + m.getName(), m.getModifiers(), Modifier.PUBLIC);
                shown.add(signature(m));
                publicNames.add(m.getName());
            }
        }
        check.due("public methods", shown, new TreeSet<>(Set.of(FACE)));
        for (Method m : face.getDeclaredMethods()) {
            if (Modifier.isPrivate(m.getModifiers()) && publicNames.contains(m.getName())) {
                check.tell("a private method bears a public one's name: " + m.getName());
            }
        }
        Constructor<?>[] constructors = face.getDeclaredConstructors();
        check.due("constructors", constructors.length, 1);
        check.due("constructor", constructors[0].toString(), "public RefusePlanner()");
        for (Field f : face.getDeclaredFields()) {
            if (!Modifier.isPrivate(f.getModifiers())) {
                check.tell("a visible field: " + f.getName());
            }
        }
        check.end();
    }

    private static String signature(Method m) {
        StringBuilder text = new StringBuilder(m.getReturnType().getSimpleName() + " " + m.getName() + "(");
        for (Class<?> type : m.getParameterTypes()) {
            text.append(type.getSimpleName()).append(' ');
        }
        StringBuilder whole = new StringBuilder(text.toString().trim()).append(')');
        for (Class<?> type : m.getExceptionTypes()) {
            whole.append(' ').append(type.getSimpleName());
        }
        return whole.toString();
    }
}
