import java.lang.reflect.Constructor;
import java.lang.reflect.Field;
import java.lang.reflect.Method;
import java.lang.reflect.Modifier;
import java.util.Set;
import java.util.TreeSet;

/** The public face, and the rules of ../shared/LANGUAGE.md that can be seen from outside the source. */
public final class FaceTest {
    private static final Set<String> CONSTANTS = Set.of("NONE -1", "NULL -11", "WRONG -12", "INDEX -13",
            "OUTSIDE -101", "FULL -102");
    private static final Set<String> METHODS = Set.of("int shelve 3", "int mark 2", "int move 2", "int count 1",
            "int read 3", "long seen 0", "int write 4", "int take 2", "int give 2", "int hold 2", "int held 0",
            "long weight 0", "int note 2", "int noted 1", "int carry 5", "int ended 0", "int total 1",
            "int peak 1", "int turn 1", "int sign 1", "int about 1");

    public static void main(String[] args) throws IllegalAccessException {
        Due.part("face");
        Class<?> face = TideShelves.class;
        Due.is("public and final", face.getModifiers(), Modifier.PUBLIC | Modifier.FINAL);
        same("constants", constants(face), CONSTANTS);
        same("methods", methods(face), METHODS);
        for (Constructor<?> made : face.getDeclaredConstructors()) {
            Due.is("constructor's modifiers", made.getModifiers(), Modifier.PUBLIC);
            Due.is("constructor's parameters", made.getParameterCount(), 0);
        }
        nested(face);
        Due.end();
    }

    private static Set<String> constants(Class<?> face) throws IllegalAccessException {
        Set<String> found = new TreeSet<>();
        for (Field field : face.getDeclaredFields()) {
            int is = field.getModifiers();
            if (!Modifier.isPrivate(is)) {
                Due.is(field.getName() + " is public static final", is,
                        Modifier.PUBLIC | Modifier.STATIC | Modifier.FINAL);
                found.add(field.getName() + " " + field.getInt(null));
            } else if (Modifier.isStatic(is)) {
                Due.is(field.getName() + " is final", Modifier.isFinal(is) ? 1 : 0, 1);
            }
        }
        return found;
    }

    private static Set<String> methods(Class<?> face) {
        Set<String> found = new TreeSet<>();
        Set<String> hidden = new TreeSet<>();
        for (Method method : face.getDeclaredMethods()) {
            if (Modifier.isPrivate(method.getModifiers())) {
                hidden.add(method.getName());
            } else {
                found.add(method.getReturnType() + " " + method.getName() + " " + method.getParameterCount());
            }
        }
        for (String one : METHODS) {
            Due.is("no private method of the name in '" + one + "'", hidden.contains(one.split(" ")[1]) ? 1 : 0, 0);
        }
        return found;
    }

    private static void nested(Class<?> face) {
        Class<?>[] inside = face.getDeclaredClasses();
        Due.is("at most twelve classes", Math.max(inside.length, 11), 11);
        for (Class<?> one : inside) {
            Due.is(one + " is static", Modifier.isStatic(one.getModifiers()) ? 1 : 0, 1);
        }
    }

    private static void same(String what, Set<String> found, Set<String> want) {
        for (String one : found) {
            Due.is(what + " has " + one, want.contains(one) ? 1 : 0, 1);
        }
        for (String one : want) {
            Due.is(what + " wants " + one, found.contains(one) ? 1 : 0, 1);
        }
    }
}
