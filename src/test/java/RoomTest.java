import java.lang.management.ManagementFactory;
import java.lang.reflect.Array;
import java.lang.reflect.Field;
import java.lang.reflect.Modifier;
import java.util.Collections;
import java.util.IdentityHashMap;
import java.util.Set;

/** Rule 12 of LANGUAGE.md: what a run keeps and makes is little, whatever it calls. */
public final class RoomTest {
    private static final int CALLS = 512;
    private static final com.sun.management.ThreadMXBean THREADS =
        (com.sun.management.ThreadMXBean) ManagementFactory.getThreadMXBean();

    private final Set<Object> seen = Collections.newSetFromMap(new IdentityHashMap<>());
    private int elements = 0;

    /** The land keeps no chain deeper than its pyramid, so that this ends soon. */
    private void walk(Object object) throws IllegalAccessException {
        if (object == null || !seen.add(object)) {
            return;
        }
        if (object.getClass().isArray()) {
            walkArray(object);
            return;
        }
        for (Field field : object.getClass().getDeclaredFields()) {
            if (Modifier.isStatic(field.getModifiers())) {
                continue;
            }
            elements++;
            field.setAccessible(true);
            if (!field.getType().isPrimitive()) {
                walk(field.get(object));
            }
        }
    }

    private void walkArray(Object array) throws IllegalAccessException {
        elements += Array.getLength(array);
        if (array.getClass().getComponentType().isPrimitive()) {
            return;
        }
        for (int i = 0; i < Array.getLength(array); i++) {
            walk(Array.get(array, i));
        }
    }

    private static void keepsLittle(String text, Pointsbook land) throws IllegalAccessException {
        RoomTest room = new RoomTest();
        room.walk(land);
        Check.due(text + " keeps " + room.seen.size() + " objects", room.seen.size() <= 200 ? 1 : 0, 1);
        Check.due(text + " keeps " + room.elements + " elements", room.elements <= 7000 ? 1 : 0, 1);
    }

    /** Each of them makes nothing; the dearest one, diet, is among them. */
    private static int manyCalls(Pointsbook land) {
        int all = 0;
        for (int i = 0; i < CALLS / 8; i++) {
            all += land.ship(5, 0, 9999) + land.advance(5, 0, 300) + land.buy(1, 1, 1, 100) + land.diet(3000);
            all += land.leftAnew(1, 1) + land.sum(i % 9) + land.inspect(i % 6) + land.month();
        }
        return all;
    }

    /** A whole land in which person 1 can live on 100 grams a month, and there is something to inspect. */
    private static Pointsbook busy() {
        Pointsbook land = Lands.whole();
        land.becomes(1, Pointsbook.CHILD);
        land.ration(1, 9999);
        land.energy(1, 900);
        land.onPoints(2, 3);
        land.energy(2, 1);
        land.ship(1, 1, 99999);
        land.advance(1, 1, 99999);
        for (int i = 0; i < 6; i++) {
            land.forge(i, 0, 1);
        }
        return land;
    }

    /** Once ahead of the count, so that what the machine makes for itself at a first call is not in it. */
    private static void makesLittle() {
        manyCalls(busy());
        Pointsbook land = busy();
        long before = THREADS.getCurrentThreadAllocatedBytes();
        manyCalls(land);
        long made = THREADS.getCurrentThreadAllocatedBytes() - before;
        Check.due("512 calls that answer make " + made + " bytes", made <= 65536 ? 1 : 0, 1);
    }

    public static void main(String[] args) throws IllegalAccessException {
        keepsLittle("a new object", new Pointsbook());
        keepsLittle("a whole land", Lands.whole());
        Pointsbook land = busy();
        manyCalls(land);
        keepsLittle("a land after many calls", land);
        makesLittle();
        Check.end();
    }
}
