import java.lang.reflect.InvocationTargetException;
import java.lang.reflect.Method;
import java.util.Arrays;
import java.util.function.Supplier;

/**
 * Every argument of every call: the least and the most that the document names are taken, one below and one above are
 * refused, as the ends of int are; of several wrong ones the exception that the document names first is thrown, also
 * where the state refuses the call; and a refused call changes nothing.
 */
public final class RangesTest {
    private static final int[] GOOD = {Check.INDEX, 0, 5};
    private static final int[] PERSON = {Check.INDEX, 0, 2};
    private static final int[] SHOP = {Check.INDEX, 0, 1};
    private static final int[] DEPOT = {Check.INDEX, 0, 1};
    private static final int[] FARM = {Check.INDEX, 0, 0};
    private static final int[] KIND = {Check.ARGUMENT, 0, 3};
    private static final int[] LITTLE = {Check.ARGUMENT, 1, 9999};
    private static final int[] MANY = {Check.ARGUMENT, 1, 99999};

    /** One call of the document: arguments that are taken, and what each of them may be. */
    private static final class Row {
        final int promise;
        final Method method;
        final int[] taken;
        final int[][] ranges;

        Row(int promise, String name, int[] taken, int[]... ranges) {
            this.promise = promise;
            this.method = method(name);
            this.taken = taken;
            this.ranges = ranges;
        }

        String text(int[] arguments) {
            String list = Arrays.toString(arguments);
            return promise + ": " + method.getName() + "(" + list.substring(1, list.length() - 1) + ")";
        }
    }

    private static final Row[] ROWS = {
        new Row(2, "ration", of(0, 7), GOOD, argument(0, 9999)),
        new Row(3, "onPoints", of(0, 7), GOOD, argument(1, 24)),
        new Row(4, "free", of(0), GOOD),
        new Row(5, "energy", of(0, 7), GOOD, argument(0, 900)),
        new Row(6, "points", of(7, 7), argument(0, 99), argument(0, 9)),
        new Row(7, "goodIs", of(0, 1), GOOD, argument(0, 5)),
        new Row(8, "person", of(1, 0), KIND, SHOP),
        new Row(9, "becomes", of(0, 1), PERSON, KIND),
        new Row(10, "moves", of(0, 1), PERSON, SHOP),
        new Row(11, "give", of(0, 1, 7), PERSON, PERSON, argument(1, 99)),
        new Row(12, "stealBook", of(0), PERSON),
        new Row(13, "personIs", of(0, 1), PERSON, argument(0, 6)),
        new Row(14, "left", of(0, 0), PERSON, GOOD),
        new Row(15, "leftAnew", of(0, 0), PERSON, GOOD),
        new Row(16, "depot", of(0), DEPOT),
        new Row(17, "shop", of(0), DEPOT),
        new Row(18, "ship", of(0, 0, 7), DEPOT, GOOD, MANY),
        new Row(19, "lose", of(0, 0, 7), DEPOT, GOOD, MANY),
        new Row(20, "depotHas", of(0, 0), DEPOT, GOOD),
        new Row(21, "buy", of(0, 0, 2, 7), PERSON, SHOP, GOOD, LITTLE),
        new Row(22, "claim", of(0, 0, 7), SHOP, GOOD, MANY),
        new Row(23, "advance", of(0, 0, 7), SHOP, GOOD, MANY),
        new Row(24, "settle", of(0, 0), SHOP, GOOD),
        new Row(25, "lacks", of(0, 0, 7, 1), SHOP, GOOD, MANY, argument(0, 2)),
        new Row(26, "shopIs", of(0, 0, 1), SHOP, GOOD, argument(0, 4)),
        new Row(27, "forge", of(0, 0, 7), SHOP, GOOD, LITTLE),
        new Row(28, "steal", of(0, 0, 7), SHOP, GOOD, LITTLE),
        new Row(29, "inspect", of(0), SHOP),
        new Row(30, "black", of(0, 0, 7), PERSON, GOOD, LITTLE),
        new Row(31, "farm", of(0, 0, 7), DEPOT, GOOD, MANY),
        new Row(32, "deliver", of(0, 7), FARM, MANY),
        new Row(33, "failed", of(0), FARM),
        new Row(35, "diet", of(7), argument(1, 3000)),
        new Row(36, "sum", of(1), argument(0, 8)),
    };

    private static int[] of(int... arguments) {
        return arguments;
    }

    private static int[] argument(int least, int most) {
        return new int[] {Check.ARGUMENT, least, most};
    }

    private static Method method(String name) {
        for (Method method : Pointsbook.class.getMethods()) {
            if (method.getName().equals(name) && method.getDeclaringClass() == Pointsbook.class) {
                return method;
            }
        }
        throw new IllegalStateException("no method " + name);
    }

    /** Three people, two shops and depots, a farm; all goods are free, and there is more of all than any call asks. */
    private static Pointsbook rich() {
        Pointsbook land = Lands.bare();
        land.depot(0);
        land.shop(1);
        land.farm(0, 3, 700);
        for (int kind = 0; kind < 3; kind++) {
            land.person(kind, kind / 2);
        }
        land.points(99, 2);
        for (int good = 0; good < 6; good++) {
            land.free(good);
            for (int place = 0; place < 2; place++) {
                land.ship(place, good, 99999);
                land.ship(place, good, 99999);
                land.ship(place, good, 99999);
                land.advance(place, good, 99999);
                land.forge(place, good, 9999);
            }
            land.steal(0, good, 9999);
        }
        for (int i = 0; i < 10; i++) {
            land.forge(0, 0, 9999);
        }
        return land;
    }

    /** As much as can be told of everything; nothing anywhere; all people have starved. */
    private static Pointsbook spent() {
        Pointsbook land = Lands.whole();
        for (int i = 0; i < 5; i++) {
            land.month();
        }
        return land;
    }

    private static int call(Pointsbook land, Method method, int[] arguments) {
        Object[] boxed = Arrays.stream(arguments).boxed().toArray();
        try {
            return (Integer) method.invoke(land, boxed);
        } catch (InvocationTargetException e) {
            if (e.getCause() instanceof RuntimeException) {
                throw (RuntimeException) e.getCause();
            }
            throw new IllegalStateException(e);
        } catch (IllegalAccessException e) {
            throw new IllegalStateException(e);
        }
    }

    private static int[] with(int[] arguments, int at, int value) {
        int[] changed = arguments.clone();
        changed[at] = value;
        return changed;
    }

    private static int[] wrong(int[] range) {
        return of(range[1] - 1, range[2] + 1, Integer.MIN_VALUE, Integer.MAX_VALUE);
    }

    private static void refused(Row row, int[] arguments, int thrown, Supplier<Pointsbook> maker, String where) {
        Lands.refused(row.text(arguments) + where, thrown, maker, x -> call(x, row.method, arguments));
    }

    /** One wrong argument in a land in which all else would be taken. */
    private static void oneWrong(Row row) {
        for (int at = 0; at < row.ranges.length; at++) {
            for (int value : wrong(row.ranges[at])) {
                refused(row, with(row.taken, at, value), row.ranges[at][0], RangesTest::rich, "");
            }
        }
    }

    private static void twoWrong(Row row) {
        for (int first = 0; first < row.ranges.length; first++) {
            for (int second = first + 1; second < row.ranges.length; second++) {
                int thrown = Math.min(row.ranges[first][0], row.ranges[second][0]);
                int[] low = with(row.taken, first, row.ranges[first][1] - 1);
                refused(row, with(low, second, row.ranges[second][2] + 1), thrown, RangesTest::rich, "");
                int[] high = with(row.taken, first, row.ranges[first][2] + 1);
                refused(row, with(high, second, row.ranges[second][1] - 1), thrown, RangesTest::rich, "");
            }
        }
    }

    /** The least and the most of each argument, the others as they were taken; who gives must not get. */
    private static void edgesTaken(Row row) {
        for (int at = 0; at < row.ranges.length; at++) {
            for (int edge = 1; edge <= 2; edge++) {
                int[] arguments = with(row.taken, at, row.ranges[at][edge]);
                if (row.promise == 11 && arguments[0] == arguments[1]) {
                    arguments[1 - at] = 1;
                }
                if (row.promise == 11 && arguments[0] == arguments[1]) {
                    arguments[1 - at] = 2;
                }
                Pointsbook land = rich();
                Check.dueThrow(row.text(arguments) + " is taken", 0, () -> call(land, row.method, arguments));
            }
        }
    }

    /** What the state refuses: a wrong argument is named first, whatever the state is. */
    private static final class Refusal {
        final int promise;
        final int[] taken;
        final int[] mosts;

        Refusal(int promise, int[] taken, int[] mosts) {
            this.promise = promise;
            this.taken = taken;
            this.mosts = mosts;
        }
    }

    private static final Refusal[] REFUSALS = {
        new Refusal(8, of(0, 0), of(3, 5)),
        new Refusal(9, of(0, 0), of(19, 3)),
        new Refusal(10, of(0, 0), of(19, 5)),
        new Refusal(11, of(0, 3, 1), of(19, 19, 99)),
        new Refusal(12, of(0), of(19)),
        new Refusal(16, of(0), of(5)),
        new Refusal(17, of(0), of(5)),
        new Refusal(19, of(0, 1, 1), of(5, 5, 99999)),
        new Refusal(21, of(0, 0, 1, 1), of(19, 5, 5, 9999)),
        new Refusal(22, of(0, 1, 1), of(5, 5, 99999)),
        new Refusal(23, of(0, 1, 1), of(5, 5, 99999)),
        new Refusal(28, of(0, 1, 1), of(5, 5, 9999)),
        new Refusal(30, of(0, 1, 1), of(19, 5, 9999)),
        new Refusal(31, of(0, 1, 1), of(5, 5, 99999)),
    };

    private static Row row(int promise) {
        for (Row row : ROWS) {
            if (row.promise == promise) {
                return row;
            }
        }
        throw new IllegalStateException("no row of promise " + promise);
    }

    private static void stateLast(Refusal refusal) {
        Row row = row(refusal.promise);
        refused(row, refusal.taken, Check.STATE, RangesTest::spent, " in a spent land");
        for (int at = 0; at < refusal.taken.length; at++) {
            int[] wrong = of(row.ranges[at][1] - 1, refusal.mosts[at] + 1);
            for (int value : wrong) {
                refused(row, with(refusal.taken, at, value), row.ranges[at][0], RangesTest::spent, " in a spent land");
            }
            int[] most = with(refusal.taken, at, refusal.mosts[at]);
            refused(row, most, Check.STATE, RangesTest::spent, " in a spent land");
        }
    }

    public static void main(String[] args) {
        for (Row row : ROWS) {
            oneWrong(row);
            twoWrong(row);
            edgesTaken(row);
        }
        for (Refusal refusal : REFUSALS) {
            stateLast(refusal);
        }
        Check.end();
    }
}
