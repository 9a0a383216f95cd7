import java.util.ArrayList;
import java.util.List;
import java.util.function.ToIntFunction;

/** Small lands to start from, and a look at all that can be asked of one. */
final class Lands {
    static final int GOODS = 6;

    private Lands() {
    }

    /** One depot with one shop, and nothing else. */
    static Pointsbook bare() {
        Pointsbook land = new Pointsbook();
        land.depot(Pointsbook.NONE);
        land.shop(0);
        return land;
    }

    /**
     * Depot 1 below depot 0; shop 0 at depot 1, shop 1 at depot 0; good 0 rationed, good 1 on points, good 2 free;
     * an adult and a child at shop 0, a heavy worker at shop 1; one farm. Shop 0 has 1000, 1000 and 500 grams of
     * goods 0 to 2, shop 1 has 300 of good 0; the depots have 3800, 2000 and 2500, all of it in depot 0.
     */
    static Pointsbook land() {
        Pointsbook land = new Pointsbook();
        land.depot(Pointsbook.NONE);
        land.depot(0);
        land.shop(1);
        land.shop(0);
        land.ration(0, 400);
        land.onPoints(1, 3);
        land.free(2);
        land.energy(0, 300);
        land.energy(1, 200);
        land.energy(2, 100);
        land.person(Pointsbook.ADULT, 0);
        land.person(Pointsbook.CHILD, 0);
        land.person(Pointsbook.HEAVY, 1);
        land.ship(0, 0, 5000);
        land.ship(1, 0, 100);
        land.ship(0, 1, 3000);
        land.ship(0, 2, 3000);
        land.advance(0, 0, 1000);
        land.advance(0, 1, 1000);
        land.advance(0, 2, 500);
        land.advance(1, 0, 300);
        land.farm(0, 3, 700);
        return land;
    }

    /** Some 170 questions of the land above, so that two looks at it stay below 512 calls. */
    static List<Integer> look(Pointsbook land) {
        List<Integer> seen = new ArrayList<>();
        for (int person = 0; person < 3; person++) {
            for (int what = 0; what < 7; what++) {
                seen.add(land.personIs(person, what));
            }
            for (int good = 0; good < GOODS; good++) {
                seen.add(land.left(person, good));
                seen.add(land.leftAnew(person, good));
            }
        }
        for (int good = 0; good < GOODS; good++) {
            lookAtGood(land, good, seen);
        }
        for (int what = 0; what < 9; what++) {
            seen.add(land.sum(what));
        }
        seen.add(land.failed(0));
        return seen;
    }

    private static void lookAtGood(Pointsbook land, int good, List<Integer> seen) {
        for (int what = 0; what < 6; what++) {
            seen.add(land.goodIs(good, what));
        }
        for (int place = 0; place < 2; place++) {
            seen.add(land.depotHas(place, good));
            for (int what = 0; what < 5; what++) {
                seen.add(land.shopIs(place, good, what));
            }
        }
    }

    /** The call throws this, and nothing that can be asked is another then. */
    static void refused(String text, int thrown, Pointsbook land, ToIntFunction<Pointsbook> call) {
        List<Integer> before = look(land);
        Check.dueThrow(text, thrown, () -> call.applyAsInt(land));
        List<Integer> after = look(land);
        Check.due(text + " changes nothing", before.equals(after) ? 1 : 0, 1);
    }

    static void refused(String text, int thrown, ToIntFunction<Pointsbook> call) {
        refused(text, thrown, land(), call);
    }

    /** A land in which person 0 has starved: five months without anything eaten. */
    static Pointsbook withDead() {
        Pointsbook land = land();
        for (int i = 0; i < 5; i++) {
            land.black(feed(land, 1), 0, 400);
            land.black(feed(land, 2), 0, 800);
            land.month();
        }
        return land;
    }

    private static int feed(Pointsbook land, int person) {
        land.ship(0, 0, 5000);
        land.advance(0, 0, 5000);
        land.steal(0, 0, 5000);
        return person;
    }
}
