import java.lang.reflect.Constructor;
import java.lang.reflect.Field;
import java.lang.reflect.Method;
import java.lang.reflect.Modifier;
import java.util.Set;
import java.util.TreeSet;

/** The public face: just the members that the document lists, with the exceptions that it names. */
public final class FaceTest {
    private static final Checks CHECKS = new Checks("FaceTest");
    private static final String INDEX = "IndexOutOfBoundsException";
    private static final String ARGUMENT = "IllegalArgumentException";
    private static final String STATE = "IllegalStateException";

    public static void main(String[] args) {
        CHECKS.due("the class is public and final", Modifier.PUBLIC | Modifier.FINAL,
                () -> BorderHouse.class.getModifiers());
        constructors();
        constants();
        methods();
        CHECKS.finish();
    }

    private static void constructors() {
        Constructor<?>[] all = BorderHouse.class.getDeclaredConstructors();
        CHECKS.due("constructors", 1, () -> all.length);
        CHECKS.due("the constructor is public", true, () -> Modifier.isPublic(all[0].getModifiers()));
        CHECKS.due("it takes nothing", 0, () -> all[0].getParameterCount());
    }

    private static void constants() {
        Set<String> found = new TreeSet<>();
        for (Field field : BorderHouse.class.getDeclaredFields()) {
            if (!Modifier.isPrivate(field.getModifiers())) {
                found.add(Modifier.toString(field.getModifiers()) + " " + field.getType() + " " + field.getName());
            }
        }
        Set<String> want = new TreeSet<>();
        for (String name : new String[] {"UNDER_WAY", "AT_DOOR", "IN_BOND", "GONE"}) {
            want.add("public static final int " + name);
        }
        CHECKS.due("the fields that are not private", want, () -> found);
    }

    private static void methods() {
        Set<String> open = new TreeSet<>();
        Set<String> openNames = new TreeSet<>();
        Set<String> hiddenNames = new TreeSet<>();
        for (Method method : BorderHouse.class.getDeclaredMethods()) {
            if (Modifier.isPrivate(method.getModifiers())) {
                hiddenNames.add(method.getName());
            } else {
                open.add(Modifier.toString(method.getModifiers()) + " " + signature(method));
                openNames.add(method.getName());
            }
        }
        for (Class<?> inside : BorderHouse.class.getDeclaredClasses()) {
            for (Method method : inside.getDeclaredMethods()) {
                hiddenNames.add(method.getName());
            }
        }
        Set<String> want = new TreeSet<>();
        want.add("public void setSort 3" + " " + ARGUMENT);
        want.add("public int setRisk 2" + " " + ARGUMENT);
        want.add("public int setGuarantee 2" + " " + ARGUMENT + " " + STATE);
        want.add("public int announce 2" + " " + ARGUMENT + " " + STATE);
        want.add("public int amend 3" + " " + INDEX + " " + ARGUMENT + " " + STATE);
        want.add("public boolean arrive 2" + " " + INDEX + " " + ARGUMENT + " " + STATE);
        want.add("public int risk 1" + " " + INDEX + " " + STATE);
        want.add("public boolean mustSearch 1" + " " + INDEX);
        want.add("public int search 3" + " " + INDEX + " " + ARGUMENT + " " + STATE);
        want.add("public int bond 2" + " " + INDEX + " " + ARGUMENT + " " + STATE);
        want.add("public int move 5" + " " + INDEX + " " + ARGUMENT + " " + STATE);
        want.add("public int free 4" + " " + INDEX + " " + ARGUMENT + " " + STATE);
        want.add("public int sendBack 4" + " " + INDEX + " " + ARGUMENT + " " + STATE);
        want.add("public int state 1" + " " + INDEX);
        want.add("public int manifest 2" + " " + INDEX + " " + ARGUMENT);
        want.add("public int stored 2" + " " + ARGUMENT);
        want.add("public int held 1" + " " + ARGUMENT);
        want.add("public int paid 1" + " " + ARGUMENT);
        CHECKS.due("the methods that are not private", want, () -> open);
        hiddenNames.retainAll(openNames);
        CHECKS.due("hidden methods with a public one's name", new TreeSet<String>(), () -> hiddenNames);
    }

    private static String signature(Method method) {
        StringBuilder text = new StringBuilder();
        text.append(method.getReturnType()).append(' ').append(method.getName());
        text.append(' ').append(method.getParameterCount());
        for (Class<?> type : method.getParameterTypes()) {
            if (type != int.class) {
                text.append(" not an int");
            }
        }
        for (Class<?> thrown : method.getExceptionTypes()) {
            text.append(' ').append(thrown.getSimpleName());
        }
        return text.toString();
    }
}
