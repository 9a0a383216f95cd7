import java.util.ArrayList;
import java.util.List;
import java.util.function.Supplier;
import java.util.function.ToIntFunction;

/** Small lands to start from, and a look at all that can be asked of one. */
final class Lands {
    static final int GOODS = 6;

    private Lands() {
    }

    /** One depot with one shop, and nothing else. */
    static Pointsbook bare() {
        Pointsbook land = new Pointsbook();
        land.depot(Pointsbook.NONE);
        land.shop(0);
        return land;
    }

    /**
     * Depot 1 below depot 0; shop 0 at depot 1, shop 1 at depot 0; good 0 rationed, good 1 on points, good 2 free;
     * an adult and a child at shop 0, a heavy worker at shop 1; one farm. Shop 0 has 1000, 1000 and 500 grams of
     * goods 0 to 2, shop 1 has 300 of good 0; the depots have 3800, 2000 and 2500, all of it in depot 0.
     */
    static Pointsbook land() {
        Pointsbook land = new Pointsbook();
        land.depot(Pointsbook.NONE);
        land.depot(0);
        land.shop(1);
        land.shop(0);
        land.ration(0, 400);
        land.onPoints(1, 3);
        land.free(2);
        land.energy(0, 300);
        land.energy(1, 200);
        land.energy(2, 100);
        land.person(Pointsbook.ADULT, 0);
        land.person(Pointsbook.CHILD, 0);
        land.person(Pointsbook.HEAVY, 1);
        land.ship(0, 0, 5000);
        land.ship(1, 0, 100);
        land.ship(0, 1, 3000);
        land.ship(0, 2, 3000);
        land.advance(0, 0, 1000);
        land.advance(0, 1, 1000);
        land.advance(0, 2, 500);
        land.advance(1, 0, 300);
        land.farm(0, 3, 700);
        return land;
    }

    /** As many depots, shops, farms and people as can be told; nothing is anywhere. */
    static Pointsbook whole() {
        Pointsbook land = new Pointsbook();
        land.depot(Pointsbook.NONE);
        for (int i = 1; i < 6; i++) {
            land.depot(i - 1);
        }
        for (int i = 0; i < 6; i++) {
            land.shop(i);
            land.farm(i, i, 7);
        }
        for (int i = 0; i < 20; i++) {
            land.person(i % 4, i % 6);
        }
        return land;
    }

    /** Some 190 questions of land(); a refused one counts, too. Two looks at it stay below 512 calls. */
    static List<Integer> look(Pointsbook land) {
        List<Integer> seen = new ArrayList<>();
        for (int person = 0; person < 3; person++) {
            lookAtPerson(land, person, seen);
        }
        for (int good = 0; good < GOODS; good++) {
            lookAtGood(land, good, seen);
        }
        for (int what = 0; what < 9; what++) {
            seen.add(land.sum(what));
        }
        seen.add(Check.outcome(() -> land.failed(0)));
        lookBeyond(land, seen);
        return seen;
    }

    private static void lookAtPerson(Pointsbook land, int person, List<Integer> seen) {
        for (int what = 0; what < 7; what++) {
            int asked = what;
            seen.add(Check.outcome(() -> land.personIs(person, asked)));
        }
        for (int good = 0; good < GOODS; good++) {
            int asked = good;
            seen.add(Check.outcome(() -> land.left(person, asked)));
            seen.add(Check.outcome(() -> land.leftAnew(person, asked)));
        }
    }

    private static void lookAtGood(Pointsbook land, int good, List<Integer> seen) {
        for (int what = 0; what < 6; what++) {
            seen.add(land.goodIs(good, what));
        }
        for (int number = 0; number < 2; number++) {
            int place = number;
            seen.add(Check.outcome(() -> land.depotHas(place, good)));
            for (int what = 0; what < 5; what++) {
                int asked = what;
                seen.add(Check.outcome(() -> land.shopIs(place, good, asked)));
            }
        }
    }

    /** A refused call must not have told one more of anything. */
    private static void lookBeyond(Pointsbook land, List<Integer> seen) {
        for (int number = 2; number < 7; number += 2) {
            int asked = number;
            seen.add(Check.outcome(() -> land.failed(asked - 1)));
            seen.add(Check.outcome(() -> land.depotHas(asked, 0)));
            seen.add(Check.outcome(() -> land.shopIs(asked, 0, 0)));
        }
        seen.add(Check.outcome(() -> land.personIs(3, 0)));
        seen.add(Check.outcome(() -> land.personIs(20, 0)));
    }

    /** What can't be asked shows only later: visits, what was delivered, the jump, and who moves. */
    private static List<Integer> lookLater(Pointsbook land) {
        List<Integer> seen = new ArrayList<>();
        seen.add(Check.outcome(() -> land.steal(0, 0, 10)));
        seen.add(Check.outcome(() -> land.black(1, 0, 10)));
        seen.add(Check.outcome(() -> land.deliver(0, 699)));
        seen.add(land.onPoints(5, 20));
        seen.add(Check.outcome(() -> land.ship(0, 5, 1)));
        seen.add(Check.outcome(() -> land.advance(0, 5, 1)));
        seen.add(Check.outcome(land::month));
        seen.addAll(look(land));
        return seen;
    }

    /** The call throws this, and nothing is another then than in a land without that call, now and later. */
    static void refused(String text, int thrown, Supplier<Pointsbook> maker, ToIntFunction<Pointsbook> call) {
        Pointsbook land = maker.get();
        Pointsbook twin = maker.get();
        Check.dueThrow(text, thrown, () -> call.applyAsInt(land));
        Check.due(text + " changes nothing", look(land).equals(look(twin)) ? 1 : 0, 1);
        Check.due(text + " changes nothing later", lookLater(land).equals(lookLater(twin)) ? 1 : 0, 1);
    }

    static void refused(String text, int thrown, ToIntFunction<Pointsbook> call) {
        refused(text, thrown, Lands::land, call);
    }

    /** A land in which person 0 has starved: five months without anything eaten. */
    static Pointsbook withDead() {
        Pointsbook land = land();
        for (int i = 0; i < 5; i++) {
            land.black(feed(land, 1), 0, 400);
            land.black(feed(land, 2), 0, 800);
            land.month();
        }
        return land;
    }

    private static int feed(Pointsbook land, int person) {
        land.ship(0, 0, 5000);
        land.advance(0, 0, 5000);
        land.steal(0, 0, 5000);
        return person;
    }
}
