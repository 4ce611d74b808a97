import java.lang.reflect.Constructor;
import java.lang.reflect.Field;
import java.lang.reflect.Method;
import java.lang.reflect.Modifier;
import java.util.TreeSet;

/** The class has just the members that the document's public face and LANGUAGE.md's rule 1 name. */
public final class FaceTest {
    private static final Checks CHECKS = new Checks();

    private static final String[] FACE = {
        "void clear()",
        "int paragraph() IllegalStateException",
        "int sign(int,int,int) NoSuchElementException IllegalArgumentException"
            + " IllegalStateException",
        "void shape(int,int,int) NoSuchElementException IllegalArgumentException",
        "int stop(int,int,int) NoSuchElementException IllegalArgumentException"
            + " IllegalStateException",
        "void sheet(int,int,int) IllegalArgumentException",
        "int lay()",
        "int count(int)",
        "int line(int,int) NoSuchElementException IllegalArgumentException",
        "int where(int,int) NoSuchElementException IllegalArgumentException",
        "int page(int,int) NoSuchElementException IllegalArgumentException",
        "int hit(int,int,int) NoSuchElementException",
    };

    public static void main(String[] args) {
        methods();
        constructors();
        others();
        CHECKS.close("FaceTest");
    }

    private static void methods() {
        TreeSet<String> due = new TreeSet<>();
        for (String each : FACE) {
            due.add(each);
        }
        TreeSet<String> names = new TreeSet<>();
        for (String each : FACE) {
            names.add(each.substring(each.indexOf(' ') + 1, each.indexOf('(')));
        }
        for (Method m : PageLayout.class.getDeclaredMethods()) {
            if (Modifier.isPublic(m.getModifiers())) {
                CHECKS.due(told(m) + " is of the face", 1, due.remove(told(m)) ? 1 : 0);
            } else {
                CHECKS.due(m + " is private", 1, Modifier.isPrivate(m.getModifiers()) ? 1 : 0);
                CHECKS.due(m + " has its own name", 0, names.contains(m.getName()) ? 1 : 0);
            }
        }
        CHECKS.due("methods that are missing: " + due, 0, due.size());
    }

    private static String told(Method m) {
        StringBuilder told = new StringBuilder();
        told.append(m.getReturnType().getSimpleName()).append(' ').append(m.getName()).append('(');
        for (int i = 0; i < m.getParameterCount(); i++) {
            told.append(i > 0 ? "," : "").append(m.getParameterTypes()[i].getSimpleName());
        }
        told.append(')');
        for (Class<?> thrown : m.getExceptionTypes()) {
            told.append(' ').append(thrown.getSimpleName());
        }
        return told.toString();
    }

    private static void constructors() {
        Constructor<?>[] made = PageLayout.class.getDeclaredConstructors();
        CHECKS.due("constructors", 1, made.length);
        CHECKS.due("its parameters", 0, made[0].getParameterCount());
        CHECKS.due("it is public", 1, Modifier.isPublic(made[0].getModifiers()) ? 1 : 0);
    }

    private static void others() {
        int modifiers = PageLayout.class.getModifiers();
        CHECKS.due("public final", 1,
            Modifier.isPublic(modifiers) && Modifier.isFinal(modifiers) ? 1 : 0);
        for (Field f : PageLayout.class.getDeclaredFields()) {
            CHECKS.due(f + " is private", 1, Modifier.isPrivate(f.getModifiers()) ? 1 : 0);
        }
        for (Class<?> c : PageLayout.class.getDeclaredClasses()) {
            CHECKS.due(c + " is static", 1, Modifier.isStatic(c.getModifiers()) ? 1 : 0);
            CHECKS.due(c + " is not public", 0, Modifier.isPublic(c.getModifiers()) ? 1 : 0);
        }
    }
}
