import java.lang.reflect.Constructor;
import java.lang.reflect.Field;
import java.lang.reflect.Method;
import java.lang.reflect.Modifier;
import java.util.Set;
import java.util.StringJoiner;
import java.util.TreeSet;

/** The public face, and the rules of ../shared/LANGUAGE.md that can be seen from outside the source. */
public final class FaceTest {
    private static final Set<String> CONSTANTS = Set.of("NONE -1", "NULL -11", "WRONG -12", "INDEX -13",
            "OUTSIDE -101", "FULL -102");
    private static final Set<String> METHODS = Set.of("int shelve(int, int, int)", "int mark(int, int)",
            "int move(int, int)", "int count(int)", "int read(int, int, int)", "long seen()",
            "int write(int, int, int, long)", "int take(int, int)", "int give(int, int)", "int hold(int, long)",
            "int held()", "long weight()", "int note(int, int)", "int noted(int)",
            "int carry(int, int, int, int, int)", "int ended()", "int total(int)", "int peak(int)", "int turn(int)",
            "int sign(int)", "int about(int)");
    private static final int MOST_PARAMETERS = 7, MOST_FIELDS = 20, MOST_CLASSES = 12;

    public static void main(String[] args) throws IllegalAccessException {
        Due.part("face");
        Class<?> face = TideShelves.class;
        Due.is("public and final", face.getModifiers(), Modifier.PUBLIC | Modifier.FINAL);
        same("constants", constants(face), CONSTANTS);
        same("methods", methods(face), METHODS);
        Due.is("constructors", face.getDeclaredConstructors().length, 1);
        for (Constructor<?> made : face.getDeclaredConstructors()) {
            Due.is("constructor's modifiers", made.getModifiers(), Modifier.PUBLIC);
            Due.is("constructor's parameters", made.getParameterCount(), 0);
        }
        Due.is("nothing above but Object", face.getSuperclass() == Object.class ? 1 : 0, 1);
        Due.is("interfaces", face.getInterfaces().length, 0);
        nested(face);
        sizes(face);
        Due.end();
    }

    private static Set<String> constants(Class<?> face) throws IllegalAccessException {
        Set<String> found = new TreeSet<>();
        for (Field field : face.getDeclaredFields()) {
            int is = field.getModifiers();
            if (!Modifier.isPrivate(is)) {
                Due.is(field.getName() + " is public static final", is,
                        Modifier.PUBLIC | Modifier.STATIC | Modifier.FINAL);
                Due.is(field.getName() + " is an int", field.getType() == int.class ? 1 : 0, 1);
                found.add(field.getName() + " " + field.getInt(null));
            }
        }
        return found;
    }

    private static Set<String> methods(Class<?> face) {
        Set<String> found = new TreeSet<>();
        Set<String> hidden = new TreeSet<>();
        for (Method method : face.getDeclaredMethods()) {
            if (Modifier.isPrivate(method.getModifiers())) {
                hidden.add(method.getName());
            } else {
                Due.is(method.getName() + " is public and nothing else", method.getModifiers(), Modifier.PUBLIC);
                Due.is(method.getName() + " throws", method.getExceptionTypes().length, 0);
                found.add(signature(method));
            }
        }
        for (Method method : face.getDeclaredMethods()) {
            boolean isPublic = Modifier.isPublic(method.getModifiers());
            Due.is("a private " + method.getName(), isPublic && hidden.contains(method.getName()) ? 1 : 0, 0);
        }
        return found;
    }

    private static String signature(Method method) {
        StringJoiner parameters = new StringJoiner(", ", "(", ")");
        for (Class<?> parameter : method.getParameterTypes()) {
            parameters.add(parameter.getName());
        }
        return method.getReturnType() + " " + method.getName() + parameters;
    }

    private static void nested(Class<?> face) {
        Class<?>[] inside = face.getDeclaredClasses();
        Due.is("most classes", Math.max(1 + inside.length, MOST_CLASSES), MOST_CLASSES);
        for (Class<?> one : inside) {
            int is = one.getModifiers();
            Due.is(one + " is static", Modifier.isStatic(is) ? 1 : 0, 1);
            Due.is(one + " is public or protected", Modifier.isPublic(is) || Modifier.isProtected(is) ? 1 : 0, 0);
            sizes(one);
        }
    }

    private static void sizes(Class<?> one) {
        int fields = 0;
        for (Field field : one.getDeclaredFields()) {
            if (Modifier.isStatic(field.getModifiers())) {
                Due.is(one + "'s static " + field.getName() + " is final", field.getModifiers() & Modifier.FINAL,
                        Modifier.FINAL);
            } else {
                fields++;
            }
        }
        Due.is("most fields of " + one, Math.max(fields, MOST_FIELDS), MOST_FIELDS);
        for (Method method : one.getDeclaredMethods()) {
            int parameters = method.getParameterCount();
            Due.is("most parameters of " + method, Math.max(parameters, MOST_PARAMETERS), MOST_PARAMETERS);
        }
    }

    private static void same(String what, Set<String> found, Set<String> want) {
        for (String one : found) {
            Due.is(what + " has " + one, want.contains(one) ? 1 : 0, 1);
        }
        for (String one : want) {
            Due.is(what + " wants " + one, found.contains(one) ? 1 : 0, 1);
        }
    }
}
