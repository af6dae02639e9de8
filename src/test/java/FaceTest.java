import java.lang.reflect.Constructor;
import java.lang.reflect.Field;
import java.lang.reflect.Method;
import java.lang.reflect.Modifier;
import java.util.ArrayList;
import java.util.List;
import java.util.TreeSet;

/** The public face is the document's, and nothing else can be seen from outside. */
public final class FaceTest {
    private static final String INDEX = "IndexOutOfBoundsException";
    private static final String ARGUMENT = "IllegalArgumentException";
    private static final String STATE = "IllegalStateException";

    public static void main(String[] args) {
        int modifiers = CurveSums.class.getModifiers();
        Check.is("public", Modifier.isPublic(modifiers), true);
        Check.is("final", Modifier.isFinal(modifiers), true);
        Check.same("the members", seen().toString(), due().toString());
        checkNoPrivateMethodBearsAPublicName();
        checkFieldsAndClasses();
        Check.end();
    }

    private static TreeSet<String> due() {
        return new TreeSet<>(List.of(
            "NONE int",
            "CurveSums(int, int)",
            "boolean curve(int, int, int) " + INDEX + " " + ARGUMENT,
            "int edition() " + STATE,
            "int use(int) " + INDEX,
            "void reservoir(int, int) " + ARGUMENT,
            "int date(int, int) " + ARGUMENT + " " + STATE,
            "int weight(int, int) " + INDEX,
            "int total(int) " + INDEX,
            "int sum(int, int) " + INDEX + " " + STATE,
            "int mix(int, int, int, int) " + INDEX + " " + ARGUMENT + " " + STATE,
            "int joinRepeats(int, int) " + INDEX + " " + STATE,
            "int least(int, int, int) " + INDEX + " " + ARGUMENT,
            "int span(int, int) " + INDEX,
            "int gap(int, int) " + INDEX + " " + ARGUMENT + " " + STATE,
            "int slid(int) " + INDEX,
            "int wiggle()",
            "int clear()",
            "int unit(int, int) " + ARGUMENT + " " + STATE,
            "int read()",
            "int count(int) " + INDEX));
    }

    private static TreeSet<String> seen() {
        TreeSet<String> seen = new TreeSet<>();
        for (Field field : CurveSums.class.getDeclaredFields()) {
            if (!Modifier.isPrivate(field.getModifiers())) {
                seen.add(field.getName() + " " + field.getType().getSimpleName());
            }
        }
        for (Constructor<?> made : CurveSums.class.getDeclaredConstructors()) {
            if (!Modifier.isPrivate(made.getModifiers())) {
                seen.add("CurveSums" + names(made.getParameterTypes(), ", ", "(", ")"));
            }
        }
        for (Method method : CurveSums.class.getDeclaredMethods()) {
            if (!Modifier.isPrivate(method.getModifiers())) {
                seen.add(method.getReturnType().getSimpleName() + " " + method.getName()
                    + names(method.getParameterTypes(), ", ", "(", ")")
                    + names(method.getExceptionTypes(), " ", " ", ""));
            }
        }
        return seen;
    }

    private static String names(Class<?>[] types, String between, String ahead, String behind) {
        List<String> names = new ArrayList<>();
        for (Class<?> type : types) {
            names.add(type.getSimpleName());
        }
        return (ahead + String.join(between, names) + behind).replaceFirst(" $", "");
    }

    private static void checkNoPrivateMethodBearsAPublicName() {
        TreeSet<String> open = new TreeSet<>();
        for (Method method : CurveSums.class.getDeclaredMethods()) {
            if (Modifier.isPublic(method.getModifiers())) {
                open.add(method.getName());
            }
        }
        List<Class<?>> all = new ArrayList<>(List.of(CurveSums.class.getDeclaredClasses()));
        all.add(CurveSums.class);
        for (Class<?> each : all) {
            for (Method method : each.getDeclaredMethods()) {
                boolean clash = !Modifier.isPublic(method.getModifiers()) && open.contains(method.getName());
                Check.is(each + " has a second " + method.getName(), clash, false);
            }
        }
    }

    private static void checkFieldsAndClasses() {
        Check.is("at most twelve classes inside", CurveSums.class.getDeclaredClasses().length <= 12, true);
        for (Class<?> each : CurveSums.class.getDeclaredClasses()) {
            Check.is(each + " is static", Modifier.isStatic(each.getModifiers()), true);
            Check.is(each + " is not public", Modifier.isPublic(each.getModifiers()), false);
        }
        for (Field field : CurveSums.class.getDeclaredFields()) {
            int modifiers = field.getModifiers();
            boolean loose = Modifier.isStatic(modifiers) && !Modifier.isFinal(modifiers);
            Check.is(field + " is static state", loose, false);
        }
    }
}
