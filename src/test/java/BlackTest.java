/** Promises 27 to 30: forge, steal, inspect, black. */
public final class BlackTest {
    private static void promise27() {
        Pointsbook land = Lands.land();
        land.buy(0, 0, 0, 100);
        Check.due("27: forge", land.forge(0, 0, 9999), 10099);
        Check.due("27: forge again", land.forge(0, 0, 1), 10100);
        Check.due("27: too many", land.shopIs(0, 0, 4), 10000);
        Check.due("27: nothing is bought", land.goodIs(0, 3), 100);
        Check.due("27: forged ones can be claimed", land.claim(0, 0, 200), 1100);
        Check.due("27: too many still", land.shopIs(0, 0, 4), 10000);
        Lands.refused("27: forge(2, 0, 0)", Check.INDEX, x -> x.forge(2, 0, 0));
        Lands.refused("27: forge(-1, 0, 1)", Check.INDEX, x -> x.forge(-1, 0, 1));
        Lands.refused("27: forge(0, 6, 0)", Check.INDEX, x -> x.forge(0, 6, 0));
        Lands.refused("27: forge(0, -1, 1)", Check.INDEX, x -> x.forge(0, -1, 1));
        Lands.refused("27: forge(0, 0, 0)", Check.ARGUMENT, x -> x.forge(0, 0, 0));
        Lands.refused("27: forge(0, 0, 10000)", Check.ARGUMENT, x -> x.forge(0, 0, 10000));
    }

    private static void promise28() {
        Pointsbook land = Lands.land();
        Check.due("28: steal", land.steal(0, 0, 700), 700);
        Check.due("28: from another shop", land.steal(1, 0, 300), 1000);
        Check.due("28: of another good", land.steal(0, 2, 1), 1);
        Check.due("28: missing", land.shopIs(0, 0, 3), 700);
        Check.due("28: missing there, too", land.shopIs(1, 0, 3), 300);
        Check.due("28: what the shop has", land.shopIs(0, 0, 0), 300);
        Check.due("28: the black market has", land.sum(6), 1001);
        Lands.refused("28: steal(2, 0, 0)", Check.INDEX, x -> x.steal(2, 0, 0));
        Lands.refused("28: steal(-1, 0, 1)", Check.INDEX, x -> x.steal(-1, 0, 1));
        Lands.refused("28: steal(0, 6, 0)", Check.INDEX, x -> x.steal(0, 6, 0));
        Lands.refused("28: steal(0, -1, 1)", Check.INDEX, x -> x.steal(0, -1, 1));
        Lands.refused("28: steal(0, 0, 0)", Check.ARGUMENT, x -> x.steal(0, 0, 0));
        Lands.refused("28: steal(0, 0, 10000)", Check.ARGUMENT, x -> x.steal(0, 0, 10000));
        Lands.refused("28: steal(0, 0, 1001)", Check.STATE, x -> x.steal(0, 0, 1001));
    }

    private static void promise29() {
        Pointsbook land = Lands.land();
        Check.due("29: nothing to take", land.inspect(0), 0);
        land.forge(0, 0, 100);
        land.forge(0, 1, 7);
        land.forge(0, 4, 9999);
        land.forge(1, 0, 33);
        land.buy(0, 0, 0, 50);
        land.claim(0, 0, 120);
        Check.due("29: all goods", land.inspect(0), 30 + 7 + 9999);
        Check.due("29: too many still", land.shopIs(0, 0, 4), 70);
        Check.due("29: no coupons", land.shopIs(0, 0, 1), 0);
        Check.due("29: the others have none too many", land.shopIs(0, 4, 4), 0);
        land.buy(0, 0, 0, 100);
        Check.due("29: the rest from later coupons", land.inspect(0), 70);
        Check.due("29: good coupons stay", land.shopIs(0, 0, 1), 30);
        Check.due("29: nothing more", land.inspect(0), 0);
        Check.due("29: the other shop", land.inspect(1), 33);
        Lands.refused("29: inspect(2)", Check.INDEX, x -> x.inspect(2));
        Lands.refused("29: inspect(-1)", Check.INDEX, x -> x.inspect(-1));
    }

    private static void promise30() {
        Pointsbook land = Lands.land();
        land.steal(0, 0, 999);
        Check.due("30: 50 cents", land.black(0, 0, 100), 50);
        Check.due("30: rounded down", land.black(0, 0, 1), 0);
        Check.due("30: rounded down", land.black(0, 0, 33), 16);
        land.inspect(0);
        Check.due("30: one visit", land.black(0, 0, 10), 7);
        land.inspect(1);
        Check.due("30: another shop's visit", land.black(1, 0, 250), 250);
        Check.due("30: paid", land.sum(8), 323);
        Check.due("30: eaten", land.sum(4), 394);
        Check.due("30: energy", land.personIs(1, 5), 750);
        Check.due("30: nothing in the book", land.left(0, 0), 400);
        Check.due("30: sold in shops", land.goodIs(0, 3), 0);
        Check.due("30: left there", land.goodIs(0, 5), 605);
        land.month();
        Check.due("30: visits of the old month", land.black(0, 0, 605), 302);
        Check.dueThrow("30: black of nothing that was", Check.STATE, () -> land.black(0, 0, 1));
        Lands.refused("30: black of nothing", Check.STATE, x -> x.black(0, 0, 1));
        Pointsbook other = Lands.land();
        Check.dueThrow("30: inspect(2)", Check.INDEX, () -> other.inspect(2));
        other.steal(0, 0, 100);
        Check.due("30: no visit", other.black(0, 0, 100), 50);
    }

    private static Pointsbook landWithBlack() {
        Pointsbook land = Lands.land();
        land.steal(0, 0, 900);
        return land;
    }

    private static Pointsbook deadWithBlack() {
        Pointsbook land = Lands.withDead();
        land.steal(0, 0, 900);
        return land;
    }

    private static void blackRefused() {
        Lands.refused("30: black(3, 0, 0)", Check.INDEX, BlackTest::landWithBlack, x -> x.black(3, 0, 0));
        Lands.refused("30: black(-1, 0, 1)", Check.INDEX, BlackTest::landWithBlack, x -> x.black(-1, 0, 1));
        Lands.refused("30: black(0, 6, 0)", Check.INDEX, BlackTest::landWithBlack, x -> x.black(0, 6, 0));
        Lands.refused("30: black(0, -1, 1)", Check.INDEX, BlackTest::landWithBlack, x -> x.black(0, -1, 1));
        Lands.refused("30: black(0, 0, 0)", Check.ARGUMENT, BlackTest::landWithBlack, x -> x.black(0, 0, 0));
        Lands.refused("30: black(0, 0, 10000)", Check.ARGUMENT, BlackTest::landWithBlack, x -> x.black(0, 0, 10000));
        Lands.refused("30: black(0, 0, 901)", Check.STATE, BlackTest::landWithBlack, x -> x.black(0, 0, 901));
        Lands.refused("30: black(dead, 0, 1)", Check.STATE, BlackTest::deadWithBlack, x -> x.black(0, 0, 1));
        Lands.refused("30: black(dead, 0, 0)", Check.ARGUMENT, BlackTest::deadWithBlack, x -> x.black(0, 0, 0));
    }

    public static void main(String[] args) {
        promise27();
        promise28();
        promise29();
        promise30();
        blackRefused();
        Check.end();
    }
}
