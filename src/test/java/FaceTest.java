import java.lang.reflect.Constructor;
import java.lang.reflect.Field;
import java.lang.reflect.Method;
import java.lang.reflect.Modifier;
import java.util.ArrayList;
import java.util.Arrays;
import java.util.List;
import java.util.Set;
import java.util.TreeSet;
import java.util.stream.Collectors;

/** The public face is that of the document, and nothing beside it can be seen from outside. */
public final class FaceTest {
    private static final String INDEX = "IndexOutOfBoundsException";
    private static final String ARGUMENT = "IllegalArgumentException";
    private static final String STATE = "IllegalStateException";

    public static void main(String[] args) {
        Check check = new Check();
        check.that("the methods are those of the document", methods());
        check.that("one public constructor without arguments", constructors());
        check.that("the class is public and final, its fields are private, static ones final", members());
        check.that("the classes inside are static and not public", inside());
        check.end();
    }

    private static Set<String> due() {
        return new TreeSet<>(Arrays.asList(
            "int hut(int) " + ARGUMENT + " " + STATE,
            "int pass(int int int) " + INDEX + " " + ARGUMENT + " " + STATE,
            "int setLength(int int) " + INDEX + " " + ARGUMENT,
            "boolean setOpen(int boolean) " + INDEX,
            "int burn(int) " + INDEX,
            "int sheet(int int int) " + INDEX,
            "int way(int int int) " + INDEX,
            "int post(int int) " + INDEX,
            "int truth(int int) " + INDEX,
            "int about(int int) " + INDEX,
            "int told(int int) " + INDEX,
            "int count(int) " + INDEX,
            "int go(int) " + ARGUMENT,
            "int foresee(int int) " + ARGUMENT + " " + INDEX,
            "int settles()", "int advise()", "double mean()", "long digest()"));
    }

    private static String names(Class<?>[] types) {
        return Arrays.stream(types).map(Class::getSimpleName).collect(Collectors.joining(" "));
    }

    private static List<String> methods() {
        Set<String> seen = new TreeSet<>();
        for (Method m : PassNotes.class.getDeclaredMethods()) {
            if (!Modifier.isPrivate(m.getModifiers())) {
                String kind = Modifier.isPublic(m.getModifiers()) && !Modifier.isStatic(m.getModifiers()) ? "" : "? ";
                seen.add((kind + m.getReturnType() + " " + m.getName() + "(" + names(m.getParameterTypes()) + ") "
                    + names(m.getExceptionTypes())).trim());
            }
        }
        List<String> wrong = new ArrayList<>();
        due().stream().filter(d -> !seen.contains(d)).forEach(d -> wrong.add("is missing: " + d));
        seen.stream().filter(s -> !due().contains(s)).forEach(s -> wrong.add("is too much: " + s));
        return wrong;
    }

    private static List<String> constructors() {
        Constructor<?>[] all = PassNotes.class.getDeclaredConstructors();
        boolean good = all.length == 1 && Modifier.isPublic(all[0].getModifiers())
            && all[0].getParameterCount() == 0 && all[0].getExceptionTypes().length == 0;
        return good ? List.of() : List.of(Arrays.toString(all));
    }

    private static List<String> members() {
        List<String> wrong = new ArrayList<>();
        int kind = PassNotes.class.getModifiers();
        if (!Modifier.isPublic(kind) || !Modifier.isFinal(kind)) {
            wrong.add("the class is not public and final");
        }
        for (Field f : PassNotes.class.getDeclaredFields()) {
            int m = f.getModifiers();
            if (!Modifier.isPrivate(m) || Modifier.isStatic(m) && !Modifier.isFinal(m)) {
                wrong.add(f.toString());
            }
        }
        return wrong;
    }

    private static List<String> inside() {
        List<String> wrong = new ArrayList<>();
        for (Class<?> c : PassNotes.class.getDeclaredClasses()) {
            int m = c.getModifiers();
            if (!Modifier.isStatic(m) || Modifier.isPublic(m) || Modifier.isProtected(m)) {
                wrong.add(c.toString());
            }
        }
        return wrong;
    }
}
