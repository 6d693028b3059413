import java.lang.reflect.Constructor;
import java.lang.reflect.Field;
import java.lang.reflect.Method;
import java.lang.reflect.Modifier;
import java.util.Set;
import java.util.TreeSet;

/** The public face: all that the document's code block names, and nothing else. */
final class FaceTest {
    private static final String FACE =
            "int weir(int, int, int) throws IllegalArgumentException, IllegalStateException;"
            + "boolean gate(int) throws IndexOutOfBoundsException, IllegalStateException;"
            + "int mend(int, int) throws IndexOutOfBoundsException, IllegalArgumentException,"
            + " IllegalStateException;"
            + "int drive(int, int) throws IndexOutOfBoundsException, IllegalArgumentException,"
            + " IllegalStateException;"
            + "int sell(int) throws IndexOutOfBoundsException, IllegalStateException;"
            + "int setRun(int, int) throws IndexOutOfBoundsException, IllegalArgumentException;"
            + "int barge(int) throws IllegalArgumentException, IllegalStateException;"
            + "int about(int, int) throws IndexOutOfBoundsException;"
            + "int told(int, int) throws IndexOutOfBoundsException;"
            + "int count(int) throws IndexOutOfBoundsException;"
            + "int hinders(int) throws IllegalArgumentException;"
            + "int richest();"
            + "int pass(int) throws IllegalArgumentException;"
            + "int catches(int) throws IndexOutOfBoundsException;"
            + "int arrives(int) throws IndexOutOfBoundsException;"
            + "int lasts(int) throws IndexOutOfBoundsException;"
            + "int foresee(int, int) throws IllegalArgumentException, IndexOutOfBoundsException;"
            + "int advise(int, int) throws IndexOutOfBoundsException, IllegalArgumentException;"
            + "double mean();"
            + "long digest()";

    public static void main(String[] args) {
        Check check = new Check();
        int modifiers = StakeWeirs.class.getModifiers();
        check.due("class is public and final", true,
                Modifier.isPublic(modifiers) && Modifier.isFinal(modifiers));
        check.due("methods", new TreeSet<>(Set.of(FACE.split(";"))), openMethods());
        Constructor<?>[] constructors = StakeWeirs.class.getDeclaredConstructors();
        check.due("constructors", 1, constructors.length);
        check.due("constructor's parameters", 0, constructors[0].getParameterCount());
        check.due("constructor is public", true, Modifier.isPublic(constructors[0].getModifiers()));
        for (Field field : StakeWeirs.class.getDeclaredFields()) {
            check.due(field + " is private", true, Modifier.isPrivate(field.getModifiers()));
        }
        check.end();
    }

    private static Set<String> openMethods() {
        Set<String> found = new TreeSet<>();
        for (Method method : StakeWeirs.class.getDeclaredMethods()) {
            if (!Modifier.isPrivate(method.getModifiers())) {
                found.add(signature(method));
            }
        }
        return found;
    }

    private static String signature(Method method) {
        String text = method.getReturnType() + " " + method.getName()
                + names(method.getParameterTypes(), "(") + ")";
        return method.getExceptionTypes().length == 0
                ? text : text + names(method.getExceptionTypes(), " throws ");
    }

    private static String names(Class<?>[] types, String start) {
        StringBuilder text = new StringBuilder(start);
        for (int i = 0; i < types.length; i++) {
            text.append(i == 0 ? "" : ", ").append(types[i].getSimpleName());
        }
        return text.toString();
    }
}
