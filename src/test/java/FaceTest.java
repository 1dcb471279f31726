import java.lang.reflect.Constructor;
import java.lang.reflect.Field;
import java.lang.reflect.Method;
import java.lang.reflect.Modifier;
import java.util.Set;
import java.util.TreeSet;

/** The public face: the members of the document with their throws clauses, and none beside them. */
public final class FaceTest {
    private static final String INDEX = "java.lang.IndexOutOfBoundsException";
    private static final String ARGUMENT = "java.lang.IllegalArgumentException";
    private static final String STATE = "java.lang.IllegalStateException";
    private static final String[] METHODS = {
        face("int puppet", 2, ARGUMENT, STATE), face("int setLength", 2, INDEX, ARGUMENT),
        face("int key", 5, INDEX, ARGUMENT, STATE),
        face("int cutKey", 2, INDEX, "java.util.NoSuchElementException"),
        face("int hear", 2, INDEX, ARGUMENT), face("int cue", 2, INDEX),
        face("int show", 2, ARGUMENT, STATE), face("int cast", 2, INDEX, STATE),
        face("int leave", 2, INDEX, STATE), face("int sell", 3, INDEX, ARGUMENT, STATE),
        face("int perform", 1, INDEX, STATE), face("int mend", 2, INDEX, ARGUMENT, STATE),
        face("int track", 2, INDEX, ARGUMENT), face("int trackByFrames", 2, INDEX, ARGUMENT),
        face("int x", 3, INDEX, ARGUMENT), face("int y", 3, INDEX, ARGUMENT),
        face("int bent", 4, INDEX, ARGUMENT), face("int least", 1, INDEX),
        face("boolean isBusy", 2, INDEX, ARGUMENT), face("int worn", 1, INDEX), face("int income", 0)};

    public static void main(String[] args) {
        Check.same("the class", Modifier.toString(Puppetloom.class.getModifiers()), "public final");
        Check.same("methods", methods().toString(), new TreeSet<>(Set.of(METHODS)).toString());
        Check.same("fields", fields().toString(), "[public static final int Puppetloom.NONE]");
        Check.same("constructors", constructors().toString(), "[public Puppetloom()]");
        Check.end("FaceTest");
    }

    private static String face(String name, int parameters, String... exceptions) {
        return "public " + name + "(" + "int ".repeat(parameters).trim() + ") throws " + String.join(", ", exceptions);
    }

    private static Set<String> methods() {
        Set<String> found = new TreeSet<>();
        for (Method method : Puppetloom.class.getDeclaredMethods()) {
            if (Modifier.isPrivate(method.getModifiers()) || method.isSynthetic()) {
                continue;
            }
            StringBuilder parameters = new StringBuilder();
            for (Class<?> type : method.getParameterTypes()) {
                parameters.append(type.getName()).append(' ');
            }
            String[] exceptions = new String[method.getExceptionTypes().length];
            for (int i = 0; i < exceptions.length; i++) {
                exceptions[i] = method.getExceptionTypes()[i].getName();
            }
            found.add(Modifier.toString(method.getModifiers()) + " " + method.getReturnType().getName() + " "
                + method.getName() + "(" + parameters.toString().trim() + ") throws " + String.join(", ", exceptions));
        }
        return found;
    }

    private static Set<String> fields() {
        Set<String> found = new TreeSet<>();
        for (Field field : Puppetloom.class.getDeclaredFields()) {
            if (!Modifier.isPrivate(field.getModifiers())) {
                found.add(field.toString());
            }
        }
        return found;
    }

    private static Set<String> constructors() {
        Set<String> found = new TreeSet<>();
        for (Constructor<?> constructor : Puppetloom.class.getDeclaredConstructors()) {
            if (!Modifier.isPrivate(constructor.getModifiers())) {
                found.add(constructor.toString());
            }
        }
        return found;
    }
}
