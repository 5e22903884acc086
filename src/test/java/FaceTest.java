import java.lang.reflect.Constructor;
import java.lang.reflect.Field;
import java.lang.reflect.Method;
import java.lang.reflect.Modifier;
import java.util.Arrays;
import java.util.Set;
import java.util.TreeSet;

/** The class has the face of the document, and no other member that can be seen from outside. */
public final class FaceTest {
    private static final String[] FACE = {
        "final int NONE", "final int FULL", "StackRoom(int, int)",
        "boolean number(int, int)", "boolean move(int, int)", "boolean clear(int)", "int kind(int)", "int value(int)",
        "int method(int, int, int, int)", "boolean change(int, int, int, int)", "int context(int, int, int)",
        "int block(int, int, int)", "boolean push(int, int)", "int fill(int, int, int)", "boolean pop(int, int)",
        "boolean peek(int, int, int)", "boolean drop(int, int)", "int height(int)", "int room(int)",
        "int floor(int)", "int count(int)", "boolean home(int, int)", "boolean sender(int, int)",
        "boolean send(int, int)", "boolean kill(int, boolean)", "boolean temporary(int, int, int)",
        "boolean keep(int, int, int)", "int words()", "int entries()", "int contexts()"};

    public static void main(String[] args) {
        Set<String> due = new TreeSet<>(Arrays.asList(FACE));
        Set<String> seen = new TreeSet<>();
        int wrong = 0;
        for (Field field : StackRoom.class.getDeclaredFields()) {
            if (!Modifier.isPrivate(field.getModifiers())) {
                seen.add((Modifier.isFinal(field.getModifiers()) ? "final " : "") + field.getType() + " " + field.getName());
                wrong += lookAtFlags(field.toString(), field.getModifiers(), true);
            } else if (Modifier.isStatic(field.getModifiers()) && !Modifier.isFinal(field.getModifiers())) {
                System.out.println("static and not final: " + field);
                wrong++;
            }
        }
        for (Constructor<?> constructor : StackRoom.class.getDeclaredConstructors()) {
            if (!Modifier.isPrivate(constructor.getModifiers())) {
                seen.add("StackRoom" + parameters(constructor.getParameterTypes()));
                wrong += lookAtFlags(constructor.toString(), constructor.getModifiers(), false);
            }
        }
        for (Method method : StackRoom.class.getDeclaredMethods()) {
            if (!Modifier.isPrivate(method.getModifiers())) {
                seen.add(method.getReturnType() + " " + method.getName() + parameters(method.getParameterTypes()));
                wrong += lookAtFlags(method.toString(), method.getModifiers(), false);
            } else if (Arrays.stream(FACE).anyMatch(line -> line.contains(" " + method.getName() + "("))) {
                System.out.println("private, with a name of the face: " + method);
                wrong++;
            }
        }
        if (!seen.equals(due)) {
            System.out.println("seen: " + seen + "\ndue:  " + due);
            wrong++;
        }
        int flags = StackRoom.class.getModifiers();
        if (!Modifier.isPublic(flags) || !Modifier.isFinal(flags)) {
            System.out.println("the class is not public and final");
            wrong++;
        }
        System.out.println(seen.size() + " members seen, " + wrong + " faults");
        if (wrong != 0) {
            System.exit(1);
        }
    }

    private static int lookAtFlags(String what, int flags, boolean isStatic) {
        if (Modifier.isPublic(flags) && Modifier.isStatic(flags) == isStatic) {
            return 0;
        }
        System.out.println("not as in the document: " + what);
        return 1;
    }

    private static String parameters(Class<?>[] types) {
        String text = Arrays.toString(types);
        return "(" + text.substring(1, text.length() - 1) + ")";
    }
}
