import java.lang.reflect.Constructor;
import java.lang.reflect.Field;
import java.lang.reflect.Method;
import java.lang.reflect.Modifier;
import java.util.HashSet;
import java.util.Set;

/** The public face is the document's, and all else is private. */
public final class FaceTest {
    private static final Set<String> FACE = Set.of(
            "int poke(int, int)",
            "boolean fill(int, long, long)",
            "void begin(int)",
            "boolean set(int, int)",
            "boolean line(int, boolean)",
            "int run(int)",
            "int word(int)",
            "int state(int)",
            "int entry(int, int)");

    public static void main(String[] args) {
        Checks.due("final", Modifier.isFinal(PageGuards.class.getModifiers()), true);
        methodsAreTheFace();
        constructorIsTheOne();
        fieldsAreHidden();
        Checks.finish();
    }

    private static void methodsAreTheFace() {
        Set<String> publicNames = new HashSet<>();
        Set<String> privateNames = new HashSet<>();
        Set<String> open = new HashSet<>();
        for (Method method : PageGuards.class.getDeclaredMethods()) {
            if (Modifier.isPrivate(method.getModifiers())) {
                privateNames.add(method.getName());
            } else {
                open.add(written(method));
                publicNames.add(method.getName());
                Checks.due(method + " is public", Modifier.isPublic(method.getModifiers()), true);
            }
        }
        Checks.due("the face is " + open, open.equals(FACE), true);
        privateNames.retainAll(publicNames);
        Checks.due("private namesakes " + privateNames, privateNames.size(), 0);
    }

    private static String written(Method method) {
        StringBuilder text = new StringBuilder();
        text.append(method.getReturnType().getName()).append(' ').append(method.getName()).append('(');
        String gap = "";
        for (Class<?> type : method.getParameterTypes()) {
            text.append(gap).append(type.getName());
            gap = ", ";
        }
        return text.append(')').toString();
    }

    private static void constructorIsTheOne() {
        Constructor<?>[] all = PageGuards.class.getDeclaredConstructors();
        Checks.due("constructors", all.length, 1);
        Checks.due("public constructors", PageGuards.class.getConstructors().length, 1);
        Checks.due("parameters", all[0].getParameterCount(), 1);
        Checks.due("int", all[0].getParameterTypes()[0] == int.class, true);
    }

    private static void fieldsAreHidden() {
        for (Field field : PageGuards.class.getDeclaredFields()) {
            Checks.due(field + " is private", Modifier.isPrivate(field.getModifiers()), true);
        }
    }
}
