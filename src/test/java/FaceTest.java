import java.lang.reflect.Constructor;
import java.lang.reflect.Field;
import java.lang.reflect.Method;
import java.lang.reflect.Modifier;
import java.util.Arrays;
import java.util.TreeSet;

/** The class has the document's public face, and no other member that can be seen. */
public final class FaceTest {
    private static final String IAE = " throws [IllegalArgumentException]";
    private static final String[] METHODS = {
        "int height(int, int, int)" + IAE,
        "int rod(int, int, int)" + IAE,
        "int rest(int, int, int)" + IAE,
        "int touched(int, int, int)" + IAE,
        "int higher(int, int, int, int)" + IAE,
        "int tops() throws []",
        "int hits(int, int)" + IAE,
        "int safe(int)" + IAE,
        "int cover(int, int)" + IAE,
        "int may(int, int, int) throws [IllegalArgumentException, IllegalStateException]",
        "int forget() throws []",
        "boolean want(int, int, boolean)" + IAE,
        "int choose() throws []",
        "int put(int) throws []",
    };

    private static String names(Class<?>[] types) {
        return Arrays.toString(Arrays.stream(types).map(Class::getSimpleName).toArray());
    }

    private static String textOf(Method method) {
        String parameters = names(method.getParameterTypes());
        return method.getReturnType().getSimpleName() + " " + method.getName()
                + "(" + parameters.substring(1, parameters.length() - 1) + ")"
                + " throws " + names(method.getExceptionTypes());
    }

    public static void main(String[] args) throws ReflectiveOperationException {
        Check check = new Check();
        Class<?> face = RollingBalls.class;
        check.due("the class is public and final", Modifier.isPublic(face.getModifiers())
                && Modifier.isFinal(face.getModifiers()), true);
        TreeSet<String> found = new TreeSet<>();
        for (Method method : face.getDeclaredMethods()) {
            if (!Modifier.isPrivate(method.getModifiers()) && !method.isSynthetic()) {
                check.due(method + " is public, not static", Modifier.isPublic(method.getModifiers())
                        && !Modifier.isStatic(method.getModifiers()), true);
                found.add(textOf(method));
            }
        }
        TreeSet<String> due = new TreeSet<>(Arrays.asList(METHODS));
        check.due("the methods are " + found + ", due are " + due + ": alike", found.equals(due), true);
        for (Field field : face.getDeclaredFields()) {
            boolean none = field.getName().equals("NONE");
            check.due(field + " is private (NONE: public)", none
                    ? Modifier.isPublic(field.getModifiers()) : Modifier.isPrivate(field.getModifiers()), true);
        }
        Constructor<?>[] constructors = face.getDeclaredConstructors();
        check.due("constructors", constructors.length, 1);
        check.due("constructor of three ints is public", Modifier.isPublic(
                face.getDeclaredConstructor(int.class, int.class, int.class).getModifiers()), true);
        check.due("NONE", RollingBalls.NONE, -1);
        check.end();
    }
}
