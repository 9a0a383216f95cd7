import java.lang.reflect.Constructor;
import java.lang.reflect.Field;
import java.lang.reflect.Method;
import java.lang.reflect.Modifier;
import java.util.Arrays;
import java.util.TreeSet;

/** The public face: exactly the constants, the constructor and the methods of the document. */
public final class FaceTest {
    private static final String INDEX = "IndexOutOfBoundsException";
    private static final String ARGUMENT = "IllegalArgumentException";
    private static final String STATE = "IllegalStateException";

    private static final String[] METHODS = {
        "ration 2 " + INDEX + " " + ARGUMENT,
        "onPoints 2 " + INDEX + " " + ARGUMENT,
        "free 1 " + INDEX,
        "energy 2 " + INDEX + " " + ARGUMENT,
        "points 2 " + ARGUMENT,
        "goodIs 2 " + INDEX + " " + ARGUMENT,
        "person 2 " + INDEX + " " + ARGUMENT + " " + STATE,
        "becomes 2 " + INDEX + " " + ARGUMENT + " " + STATE,
        "moves 2 " + INDEX + " " + STATE,
        "give 3 " + INDEX + " " + ARGUMENT + " " + STATE,
        "stealBook 1 " + INDEX + " " + STATE,
        "personIs 2 " + INDEX + " " + ARGUMENT,
        "left 2 " + INDEX,
        "leftAnew 2 " + INDEX,
        "depot 1 " + INDEX + " " + STATE,
        "shop 1 " + INDEX + " " + STATE,
        "ship 3 " + INDEX + " " + ARGUMENT,
        "lose 3 " + INDEX + " " + ARGUMENT + " " + STATE,
        "depotHas 2 " + INDEX,
        "buy 4 " + INDEX + " " + ARGUMENT + " " + STATE,
        "claim 3 " + INDEX + " " + ARGUMENT + " " + STATE,
        "advance 3 " + INDEX + " " + ARGUMENT + " " + STATE,
        "settle 2 " + INDEX,
        "lacks 4 " + INDEX + " " + ARGUMENT,
        "shopIs 3 " + INDEX + " " + ARGUMENT,
        "forge 3 " + INDEX + " " + ARGUMENT,
        "steal 3 " + INDEX + " " + ARGUMENT + " " + STATE,
        "inspect 1 " + INDEX,
        "black 3 " + INDEX + " " + ARGUMENT + " " + STATE,
        "farm 3 " + INDEX + " " + ARGUMENT + " " + STATE,
        "deliver 2 " + INDEX + " " + ARGUMENT,
        "failed 1 " + INDEX,
        "month 0 " + STATE,
        "diet 1 " + ARGUMENT,
        "sum 1 " + ARGUMENT,
    };

    private static void dueText(String call, String got, String want) {
        Check.due(call + " is " + got + ", due is " + want, got.equals(want) ? 1 : 0, 1);
    }

    private static void constants() throws IllegalAccessException {
        TreeSet<String> found = new TreeSet<>();
        for (Field field : Pointsbook.class.getDeclaredFields()) {
            if (!Modifier.isPrivate(field.getModifiers())) {
                dueText(field.getName(), Modifier.toString(field.getModifiers()) + " " + field.getType(),
                    "public static final int");
                found.add(field.getName() + "=" + field.getInt(null));
            }
        }
        dueText("constants", found.toString(), new TreeSet<>(Arrays.asList("NONE=-1", "CHILD=0", "ADULT=1",
            "HEAVY=2", "MOTHER=3", "RATIONED=0", "POINTS=1", "FREE=2", "STOLEN=0", "LACKED=1",
            "UNSPENT=2")).toString());
    }

    private static String face(Method method) {
        StringBuilder text = new StringBuilder(method.getName());
        text.append(' ').append(method.getParameterCount());
        for (Class<?> thrown : method.getExceptionTypes()) {
            text.append(' ').append(thrown.getSimpleName());
        }
        return text.toString();
    }

    private static void methods() {
        TreeSet<String> found = new TreeSet<>();
        TreeSet<String> publicNames = new TreeSet<>();
        for (Method method : Pointsbook.class.getDeclaredMethods()) {
            if (Modifier.isPrivate(method.getModifiers())) {
                continue;
            }
            publicNames.add(method.getName());
            found.add(face(method));
            dueText(method.getName(), Modifier.toString(method.getModifiers()) + " " + method.getReturnType(),
                "public int");
            for (Class<?> type : method.getParameterTypes()) {
                dueText("a parameter of " + method.getName(), type.toString(), "int");
            }
        }
        dueText("methods", found.toString(), new TreeSet<>(Arrays.asList(METHODS)).toString());
        for (Method method : Pointsbook.class.getDeclaredMethods()) {
            if (Modifier.isPrivate(method.getModifiers())) {
                Check.due("a public method named as the private one " + method.getName(),
                    publicNames.contains(method.getName()) ? 1 : 0, 0);
            }
        }
    }

    private static void classes() {
        dueText("Pointsbook", Modifier.toString(Pointsbook.class.getModifiers()), "public final");
        Constructor<?>[] made = Pointsbook.class.getDeclaredConstructors();
        Check.due("constructors", made.length, 1);
        dueText("the constructor", made[0].toString(), "public Pointsbook()");
        for (Class<?> inside : Pointsbook.class.getDeclaredClasses()) {
            Check.due(inside + " is public or protected",
                inside.getModifiers() & (Modifier.PUBLIC | Modifier.PROTECTED), 0);
            Check.due(inside + " is static", Modifier.isStatic(inside.getModifiers()) ? 1 : 0, 1);
        }
    }

    public static void main(String[] args) throws IllegalAccessException {
        constants();
        methods();
        classes();
        Check.end();
    }
}
