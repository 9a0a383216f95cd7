import java.lang.reflect.InvocationTargetException;
import java.lang.reflect.Method;
import java.lang.reflect.Modifier;
import java.util.ArrayList;
import java.util.Arrays;
import java.util.Comparator;
import java.util.List;

/**
 * Rule 7 of LANGUAGE.md: whatever is called with whatever arguments, also far beyond the 512th call, nothing is thrown
 * but what the document names at that method. What is answered is not looked at here.
 */
public final class LongRunTest {
    private static final int[] FAR = {Integer.MIN_VALUE, Integer.MAX_VALUE, -2, 100000, 65536, -65536, 1 << 30};
    private static final List<Method> METHODS = new ArrayList<>();
    private static long seed = 20261120L;

    private static int below(int bound) {
        seed = seed * 6364136223846793005L + 1442695040888963407L;
        return (int) ((seed >>> 33) % bound);
    }

    private static int argument() {
        int draw = below(100);
        if (draw < 60) {
            return below(3);
        }
        if (draw < 80) {
            return below(22) - 1;
        }
        if (draw < 97) {
            return below(draw < 90 ? 100 : 1000) * 100;
        }
        return FAR[below(FAR.length)];
    }

    private static void call(Pointsbook land, Method method) throws IllegalAccessException {
        Object[] arguments = new Object[method.getParameterCount()];
        for (int i = 0; i < arguments.length; i++) {
            arguments[i] = argument();
        }
        int right = 1;
        try {
            method.invoke(land, arguments);
        } catch (InvocationTargetException e) {
            right = Arrays.asList(method.getExceptionTypes()).contains(e.getCause().getClass()) ? 1 : 0;
        }
        Check.due("rule 7: what " + method.getName() + Arrays.toString(arguments) + " throws is named", right, 1);
    }

    private static void run(Pointsbook land, int calls) throws IllegalAccessException {
        for (int i = 0; i < calls; i++) {
            Method method = METHODS.get(below(METHODS.size()));
            boolean dearOrLast = method.getName().equals("diet") || method.getName().equals("month");
            call(land, dearOrLast && below(4) > 0 ? METHODS.get(below(METHODS.size())) : method);
        }
    }

    /** As many sales as the rows hold, and one more, and many more. */
    private static void salesBeyondTheRows() {
        Pointsbook land = Lands.bare();
        land.ration(0, 9999);
        land.person(Pointsbook.ADULT, 0);
        land.ship(0, 0, 9999);
        land.advance(0, 0, 9999);
        for (int i = 0; i < 2000; i++) {
            Check.dueThrow("rule 7: sale " + i, 0, () -> land.buy(0, 0, 0, 1));
            Check.dueThrow("rule 7: leftAnew after sale " + i, 0, () -> land.leftAnew(0, 0));
        }
    }

    public static void main(String[] args) throws IllegalAccessException {
        for (Method method : Pointsbook.class.getDeclaredMethods()) {
            if (Modifier.isPublic(method.getModifiers())) {
                METHODS.add(method);
            }
        }
        METHODS.sort(Comparator.comparing(Method::getName));
        for (int i = 0; i < 200; i++) {
            run(new Pointsbook(), 100);
            run(Lands.land(), 1000);
            run(Lands.whole(), 1000);
        }
        run(new Pointsbook(), 300000);
        salesBeyondTheRows();
        Check.end();
    }
}
