import java.lang.reflect.Constructor;
import java.lang.reflect.Field;
import java.lang.reflect.Method;
import java.lang.reflect.Modifier;
import java.util.Arrays;
import java.util.TreeSet;

/** The class shows the document's constants, constructor and methods, and nothing else. */
public final class FaceTest {
    private static final String[] METHODS = {
        "int answer(int,int) IllegalArgumentException IndexOutOfBoundsException",
        "int chipHas(int) IllegalArgumentException",
        "int clock(boolean,boolean,int) IllegalArgumentException",
        "int escapes()",
        "int fails(int) IndexOutOfBoundsException",
        "int fault()",
        "int feed(int,long) IllegalArgumentException",
        "int place()",
        "int read()",
        "int row(int,int) IndexOutOfBoundsException IllegalArgumentException",
        "int shows(int,int) IndexOutOfBoundsException IllegalArgumentException",
        "int test(int) IndexOutOfBoundsException",
        "int told(int) IllegalArgumentException",
        "int wipe()",
        "void chip(int) IndexOutOfBoundsException"
    };

    public static void main(String[] args) {
        Check.sentence("The public face", "public final class ScanTester");
        Check.same("NONE", ScanTester.NONE, -1);
        Check.same("modifiers", ScanTester.class.getModifiers(), Modifier.PUBLIC | Modifier.FINAL);
        methods();
        fields();
        Constructor<?>[] made = ScanTester.class.getDeclaredConstructors();
        Check.same("constructors", made.length, 1);
        Check.same("parameters", made[0].getParameterCount(), 0);
        Check.same("public constructor", made[0].getModifiers(), Modifier.PUBLIC);
        for (Class<?> inside : ScanTester.class.getDeclaredClasses()) {
            boolean fine = Modifier.isStatic(inside.getModifiers())
                && !Modifier.isPublic(inside.getModifiers()) && !Modifier.isProtected(inside.getModifiers());
            Check.same("class inside " + inside.getName(), fine ? 1 : 0, 1);
            ownNames(inside);
        }
        Check.end();
    }

    private static void methods() {
        TreeSet<String> seen = new TreeSet<>();
        for (Method m : ScanTester.class.getDeclaredMethods()) {
            if (!Modifier.isPrivate(m.getModifiers())) {
                Check.same("modifiers of " + m.getName(), m.getModifiers(), Modifier.PUBLIC);
                seen.add(written(m));
            }
        }
        TreeSet<String> due = new TreeSet<>(Arrays.asList(METHODS));
        Check.same("methods " + seen, seen.equals(due) ? 1 : 0, 1);
    }

    /** No method inside bears the name of one of the face. */
    private static void ownNames(Class<?> inside) {
        for (Method m : inside.getDeclaredMethods()) {
            boolean isOfTheFace = false;
            for (String written : METHODS) {
                isOfTheFace |= written.contains(" " + m.getName() + "(");
            }
            Check.same("name of " + inside.getName() + "." + m.getName(), isOfTheFace ? 1 : 0, 0);
        }
    }

    private static void fields() {
        for (Field field : ScanTester.class.getDeclaredFields()) {
            boolean isNone = field.getName().equals("NONE");
            Check.same("private field " + field.getName(), Modifier.isPrivate(field.getModifiers()) ? 1 : 0, isNone ? 0 : 1);
        }
    }

    private static String written(Method m) {
        StringBuilder text = new StringBuilder(m.getReturnType() + " " + m.getName() + "(");
        for (Class<?> type : m.getParameterTypes()) {
            text.append(text.charAt(text.length() - 1) == '(' ? "" : ",").append(type);
        }
        text.append(")");
        for (Class<?> type : m.getExceptionTypes()) {
            text.append(" ").append(type.getSimpleName());
        }
        return text.toString();
    }
}
