/** Promises 16 to 26: depot, shop, ship, lose, depotHas, buy, claim, advance, settle, lacks, shopIs. */
public final class ShopsTest {
    private static void promise16() {
        Pointsbook land = new Pointsbook();
        Check.dueThrow("16: depot(0) as the first", Check.INDEX, () -> land.depot(0));
        Check.dueThrow("16: depot(-2) as the first", Check.INDEX, () -> land.depot(-2));
        Check.due("16: the first", land.depot(Pointsbook.NONE), 0);
        Check.dueThrow("16: depot(NONE) again", Check.INDEX, () -> land.depot(Pointsbook.NONE));
        Check.dueThrow("16: depot(1) below itself", Check.INDEX, () -> land.depot(1));
        for (int i = 1; i < 6; i++) {
            Check.due("16: the next", land.depot(i / 2), i);
        }
        Check.dueThrow("16: depot(0) of 7", Check.STATE, () -> land.depot(0));
        Check.dueThrow("16: depot(6) of 7", Check.INDEX, () -> land.depot(6));
        Check.dueThrow("16: depot(NONE) of 7", Check.INDEX, () -> land.depot(Pointsbook.NONE));
        Check.dueThrow("16: depotHas(6, 0)", Check.INDEX, () -> land.depotHas(6, 0));
        Check.due("16: empty", land.depotHas(5, 5), 0);
        land.shop(5);
        land.ship(0, 0, 9);
        Check.due("16: 5 below 2 below 1 below 0", land.lacks(0, 0, 9, 0), 3);
        Lands.refused("16: depot(2)", Check.INDEX, x -> x.depot(2));
    }

    private static void promise17() {
        Pointsbook land = new Pointsbook();
        Check.dueThrow("17: shop(0) without depots", Check.INDEX, () -> land.shop(0));
        land.depot(Pointsbook.NONE);
        Check.dueThrow("17: shop(NONE)", Check.INDEX, () -> land.shop(Pointsbook.NONE));
        for (int i = 0; i < 6; i++) {
            Check.due("17: shop", land.shop(0), i);
        }
        Check.dueThrow("17: shop(0) of 7", Check.STATE, () -> land.shop(0));
        Check.dueThrow("17: shop(1) of 7", Check.INDEX, () -> land.shop(1));
        Check.dueThrow("17: shopIs(6, 0, 0)", Check.INDEX, () -> land.shopIs(6, 0, 0));
        Check.due("17: empty", land.shopIs(5, 5, 0), 0);
        Lands.refused("17: shop(2)", Check.INDEX, x -> x.shop(2));
    }

    private static void promise18() {
        Pointsbook land = Lands.bare();
        Check.due("18: ship", land.ship(0, 5, 99999), 99999);
        Check.due("18: ship more", land.ship(0, 5, 1), 100000);
        Check.due("18: of another good", land.ship(0, 4, 3), 3);
        Check.due("18: came", land.sum(1), 100003);
        Lands.refused("18: ship(2, 0, 0)", Check.INDEX, x -> x.ship(2, 0, 0));
        Lands.refused("18: ship(-1, 0, 1)", Check.INDEX, x -> x.ship(-1, 0, 1));
        Lands.refused("18: ship(0, 6, 0)", Check.INDEX, x -> x.ship(0, 6, 0));
        Lands.refused("18: ship(0, -1, 1)", Check.INDEX, x -> x.ship(0, -1, 1));
        Lands.refused("18: ship(0, 0, 0)", Check.ARGUMENT, x -> x.ship(0, 0, 0));
        Lands.refused("18: ship(0, 0, 100000)", Check.ARGUMENT, x -> x.ship(0, 0, 100000));
    }

    private static void promise19() {
        Pointsbook land = Lands.land();
        Check.due("19: lose", land.lose(0, 1, 500), 1500);
        Check.due("19: lose all", land.lose(0, 1, 1500), 0);
        Check.due("19: lost", land.sum(5), 2000);
        Check.due("19: came", land.sum(1), 11100);
        Lands.refused("19: lose(2, 0, 0)", Check.INDEX, x -> x.lose(2, 0, 0));
        Lands.refused("19: lose(-1, 0, 1)", Check.INDEX, x -> x.lose(-1, 0, 1));
        Lands.refused("19: lose(0, 6, 1)", Check.INDEX, x -> x.lose(0, 6, 1));
        Lands.refused("19: lose(0, -1, 1)", Check.INDEX, x -> x.lose(0, -1, 1));
        Lands.refused("19: lose(0, 0, 0)", Check.ARGUMENT, x -> x.lose(0, 0, 0));
        Lands.refused("19: lose(0, 0, 100000)", Check.ARGUMENT, x -> x.lose(0, 0, 100000));
        Lands.refused("19: lose(0, 0, 3801)", Check.STATE, x -> x.lose(0, 0, 3801));
        Lands.refused("19: lose(1, 1, 1)", Check.STATE, x -> x.lose(1, 1, 1));
    }

    private static void promise20() {
        Pointsbook land = Lands.land();
        Check.due("20: depotHas(0, 0)", land.depotHas(0, 0), 3800);
        Check.due("20: depotHas(1, 0)", land.depotHas(1, 0), 0);
        Check.due("20: depotHas(0, 5)", land.depotHas(0, 5), 0);
        land.deliver(0, 8);
        Check.due("20: depotHas(0, 3)", land.depotHas(0, 3), 8);
        Lands.refused("20: depotHas(2, 0)", Check.INDEX, x -> x.depotHas(2, 0));
        Lands.refused("20: depotHas(-1, 0)", Check.INDEX, x -> x.depotHas(-1, 0));
        Lands.refused("20: depotHas(0, 6)", Check.INDEX, x -> x.depotHas(0, 6));
        Lands.refused("20: depotHas(0, -1)", Check.INDEX, x -> x.depotHas(0, -1));
    }

    private static void promise21() {
        Pointsbook land = Lands.land();
        Check.due("21: rationed", land.buy(0, 0, 0, 399), 1);
        Check.due("21: the last gram", land.buy(0, 0, 0, 1), 0);
        Check.due("21: on points", land.buy(0, 0, 1, 400), 8);
        Check.due("21: on points again", land.buy(0, 0, 1, 200), 2);
        Check.due("21: free", land.buy(0, 0, 2, 500), Pointsbook.NONE);
        Check.due("21: free, all of it", land.shopIs(0, 2, 0), 0);
        Check.due("21: free, no coupons", land.shopIs(0, 2, 1), 0);
        Check.due("21: rationed coupons", land.shopIs(0, 0, 1), 400);
        Check.due("21: coupons of points", land.shopIs(0, 1, 1), 600);
        Check.due("21: eaten", land.sum(4), 1500);
        Check.due("21: energy", land.personIs(0, 5), 1200 + 1200 + 500);
        Check.due("21: points at a shop of others", land.buy(2, 0, 1, 100), 17);
        land.points(21, 2);
        Check.due("21: all points that are left", land.buy(0, 0, 1, 100), 0);
        Check.due("21: free at a shop of others", Lands.land().buy(2, 0, 2, 1), Pointsbook.NONE);
    }

    private static void buyRefused() {
        Lands.refused("21: buy(3, 0, 0, 0)", Check.INDEX, x -> x.buy(3, 0, 0, 0));
        Lands.refused("21: buy(-1, 0, 0, 1)", Check.INDEX, x -> x.buy(-1, 0, 0, 1));
        Lands.refused("21: buy(0, 2, 0, 0)", Check.INDEX, x -> x.buy(0, 2, 0, 0));
        Lands.refused("21: buy(0, -1, 0, 1)", Check.INDEX, x -> x.buy(0, -1, 0, 1));
        Lands.refused("21: buy(0, 0, 6, 0)", Check.INDEX, x -> x.buy(0, 0, 6, 0));
        Lands.refused("21: buy(0, 0, -1, 1)", Check.INDEX, x -> x.buy(0, 0, -1, 1));
        Lands.refused("21: buy(0, 1, 0, 0)", Check.ARGUMENT, x -> x.buy(0, 1, 0, 0));
        Lands.refused("21: buy(0, 0, 0, 10000)", Check.ARGUMENT, x -> x.buy(0, 0, 0, 10000));
        Lands.refused("21: buy(0, 0, 1, 150)", Check.ARGUMENT, x -> x.buy(0, 0, 1, 150));
        Lands.refused("21: buy(0, 0, 1, 9999)", Check.ARGUMENT, x -> x.buy(0, 0, 1, 9999));
        Lands.refused("21: buy(dead, 0, 1, 50)", Check.ARGUMENT, Lands::withDead, x -> x.buy(0, 0, 1, 50));
        Lands.refused("21: buy(dead, 0, 2, 1)", Check.STATE, Lands::withDead, x -> x.buy(0, 0, 2, 1));
        Lands.refused("21: buy(dead, 0, 0, 1)", Check.STATE, Lands::withDead, x -> x.buy(0, 0, 0, 1));
        Lands.refused("21: rationed elsewhere", Check.STATE, x -> x.buy(0, 1, 0, 1));
        Lands.refused("21: more than is left", Check.STATE, x -> x.buy(0, 0, 0, 401));
        Lands.refused("21: more points than are left", Check.STATE, x -> x.buy(0, 0, 1, 700));
        Lands.refused("21: more than the shop has", Check.STATE, x -> x.buy(2, 1, 0, 301));
        Lands.refused("21: on points, the shop has none", Check.STATE, x -> x.buy(0, 1, 1, 100));
        Lands.refused("21: free, the shop has too little", Check.STATE, x -> x.buy(0, 0, 2, 501));
    }

    /** 300 coupons of good 0 in shop 0, with 3800 grams in the depots. */
    private static Pointsbook banked() {
        Pointsbook land = Lands.land();
        land.buy(0, 0, 0, 300);
        return land;
    }

    /** 300 coupons of good 0 in shop 0, with 20 grams in its depot and 50 in the one above. */
    private static Pointsbook poor() {
        Pointsbook land = banked();
        land.lose(0, 0, 3750);
        land.ship(1, 0, 20);
        return land;
    }

    private static void promise22() {
        Pointsbook land = Lands.land();
        land.buy(0, 0, 0, 300);
        land.ship(1, 0, 50);
        Check.due("22: claim", land.claim(0, 0, 120), 820);
        Check.due("22: from the near depot first", land.depotHas(1, 0), 0);
        Check.due("22: and the one above", land.depotHas(0, 0), 3730);
        Check.due("22: coupons", land.shopIs(0, 0, 1), 180);
        Check.due("22: claim the rest", land.claim(0, 0, 180), 1000);
        Check.dueThrow("22: claim when all is claimed", Check.STATE, () -> land.claim(0, 0, 1));
        Lands.refused("22: claim one more than is banked", Check.STATE, ShopsTest::banked, x -> x.claim(0, 0, 301));
        Lands.refused("22: claim what cannot be supplied", Check.STATE, ShopsTest::poor, x -> x.claim(0, 0, 71));
        Pointsbook poor = poor();
        Check.due("22: claim all that can", poor.claim(0, 0, 70), 770);
        Check.due("22: supplied, not owed", poor.shopIs(0, 0, 2), 1000);
        Lands.refused("22: claim(2, 0, 0)", Check.INDEX, x -> x.claim(2, 0, 0));
        Lands.refused("22: claim(-1, 0, 1)", Check.INDEX, x -> x.claim(-1, 0, 1));
        Lands.refused("22: claim(0, 6, 0)", Check.INDEX, x -> x.claim(0, 6, 0));
        Lands.refused("22: claim(0, -1, 1)", Check.INDEX, x -> x.claim(0, -1, 1));
        Lands.refused("22: claim(0, 0, 0)", Check.ARGUMENT, x -> x.claim(0, 0, 0));
        Lands.refused("22: claim(0, 0, 100000)", Check.ARGUMENT, x -> x.claim(0, 0, 100000));
        Lands.refused("22: claim(0, 0, 1)", Check.STATE, x -> x.claim(0, 0, 1));
    }

    private static void promise23() {
        Pointsbook land = Lands.land();
        Check.due("23: owed by now", land.shopIs(0, 0, 2), 1000);
        Check.due("23: advance", land.advance(0, 0, 800), 1800);
        Check.due("23: the shop has", land.shopIs(0, 0, 0), 1800);
        Check.due("23: the depot has", land.depotHas(0, 0), 3000);
        land.ship(1, 0, 40);
        land.ship(0, 0, 1);
        Check.due("23: a gram more than the near depot has", land.advance(0, 0, 41), 1841);
        Check.due("23: the near depot then", land.depotHas(1, 0), 0);
        Check.due("23: the one above then", land.depotHas(0, 0), 3000);
        Check.due("23: all the depot has", land.advance(1, 0, 3000), 3300);
        Check.due("23: empty", land.depotHas(0, 0), 0);
        Check.dueThrow("23: advance from emptied depots", Check.STATE, () -> land.advance(0, 0, 1));
        Lands.refused("23: advance from empty depots", Check.STATE, x -> x.advance(0, 4, 1));
        Lands.refused("23: advance(0, 0, 3801)", Check.STATE, x -> x.advance(0, 0, 3801));
        Lands.refused("23: advance(2, 0, 0)", Check.INDEX, x -> x.advance(2, 0, 0));
        Lands.refused("23: advance(-1, 0, 1)", Check.INDEX, x -> x.advance(-1, 0, 1));
        Lands.refused("23: advance(0, 6, 0)", Check.INDEX, x -> x.advance(0, 6, 0));
        Lands.refused("23: advance(0, -1, 1)", Check.INDEX, x -> x.advance(0, -1, 1));
        Lands.refused("23: advance(0, 0, 0)", Check.ARGUMENT, x -> x.advance(0, 0, 0));
        Lands.refused("23: advance(0, 0, 100000)", Check.ARGUMENT, x -> x.advance(0, 0, 100000));
    }

    private static void promise24() {
        Pointsbook land = Lands.land();
        Check.due("24: settle without coupons", land.settle(0, 0), 0);
        land.buy(0, 0, 0, 300);
        Check.due("24: settle with all coupons", land.settle(0, 0), 300);
        Check.due("24: owed", land.shopIs(0, 0, 2), 700);
        Check.due("24: coupons", land.shopIs(0, 0, 1), 0);
        land.forge(0, 0, 900);
        Check.due("24: settle all that is owed", land.settle(0, 0), 700);
        Check.due("24: owed then", land.shopIs(0, 0, 2), 0);
        Check.due("24: coupons then", land.shopIs(0, 0, 1), 200);
        Check.due("24: settle nothing", land.settle(0, 0), 0);
        Check.due("24: goods stay", land.shopIs(0, 0, 0), 700);
        Lands.refused("24: settle(2, 0)", Check.INDEX, x -> x.settle(2, 0));
        Lands.refused("24: settle(-1, 0)", Check.INDEX, x -> x.settle(-1, 0));
        Lands.refused("24: settle(0, 6)", Check.INDEX, x -> x.settle(0, 6));
        Lands.refused("24: settle(0, -1)", Check.INDEX, x -> x.settle(0, -1));
    }

    private static void dueLacks(String text, Pointsbook land, int grams, int count, int lack, int number) {
        Check.due(text + " lacks 0", land.lacks(0, 0, grams, 0), count);
        Check.due(text + " lacks 1", land.lacks(0, 0, grams, 1), lack);
        Check.due(text + " lacks 2", land.lacks(0, 0, grams, 2), number);
    }

    private static void promise25() {
        Pointsbook land = new Pointsbook();
        land.depot(Pointsbook.NONE);
        land.depot(0);
        land.depot(0);
        land.depot(2);
        land.shop(3);
        land.ship(0, 0, 70);
        land.ship(1, 0, 9000);
        land.ship(2, 0, 20);
        land.ship(3, 0, 10);
        dueLacks("25: the least", land, 1, 0, 0, Pointsbook.NONE);
        dueLacks("25: enough below", land, 10, 0, 0, Pointsbook.NONE);
        dueLacks("25: one lacks some", land, 11, 1, 1, 3);
        dueLacks("25: one lacks all of the second", land, 30, 1, 20, 3);
        dueLacks("25: two lack some", land, 31, 2, 1, 2);
        dueLacks("25: just enough in all", land, 100, 2, 70, 2);
        dueLacks("25: the first lacks, too", land, 101, 3, 1, 0);
        dueLacks("25: the most", land, 99999, 3, 99899, 0);
        Check.due("25: nothing moves", land.depotHas(3, 0), 10);
        Lands.refused("25: lacks(2, 0, 0, 3)", Check.INDEX, x -> x.lacks(2, 0, 0, 3));
        Lands.refused("25: lacks(-1, 0, 1, 0)", Check.INDEX, x -> x.lacks(-1, 0, 1, 0));
        Lands.refused("25: lacks(0, 6, 0, 3)", Check.INDEX, x -> x.lacks(0, 6, 0, 3));
        Lands.refused("25: lacks(0, -1, 1, 0)", Check.INDEX, x -> x.lacks(0, -1, 1, 0));
        Lands.refused("25: lacks(0, 0, 0, 0)", Check.ARGUMENT, x -> x.lacks(0, 0, 0, 0));
        Lands.refused("25: lacks(0, 0, 100000, 0)", Check.ARGUMENT, x -> x.lacks(0, 0, 100000, 0));
        Lands.refused("25: lacks(0, 0, 1, 3)", Check.ARGUMENT, x -> x.lacks(0, 0, 1, 3));
        Lands.refused("25: lacks(0, 0, 1, -1)", Check.ARGUMENT, x -> x.lacks(0, 0, 1, -1));
    }

    private static void promise26() {
        Pointsbook land = Lands.land();
        land.buy(0, 0, 0, 200);
        land.claim(0, 0, 30);
        land.steal(0, 0, 45);
        land.forge(0, 0, 60);
        int[] due = {785, 230, 1000, 45, 60};
        for (int what = 0; what < due.length; what++) {
            Check.due("26: shopIs(0, 0, " + what + ")", land.shopIs(0, 0, what), due[what]);
            Check.due("26: shopIs(1, 1, " + what + ")", land.shopIs(1, 1, what), 0);
        }
        land.settle(0, 0);
        land.month();
        int[] later = {785, 0, 770, 45, 60};
        for (int what = 0; what < later.length; what++) {
            Check.due("26: later shopIs(0, 0, " + what + ")", land.shopIs(0, 0, what), later[what]);
        }
        land.buy(0, 0, 2, 77);
        Check.due("26: free goods are sold, not missing", land.shopIs(0, 2, 3), 0);
        Lands.refused("26: shopIs(2, 0, 5)", Check.INDEX, x -> x.shopIs(2, 0, 5));
        Lands.refused("26: shopIs(-1, 0, 0)", Check.INDEX, x -> x.shopIs(-1, 0, 0));
        Lands.refused("26: shopIs(0, 6, 5)", Check.INDEX, x -> x.shopIs(0, 6, 5));
        Lands.refused("26: shopIs(0, -1, 0)", Check.INDEX, x -> x.shopIs(0, -1, 0));
        Lands.refused("26: shopIs(0, 0, 5)", Check.ARGUMENT, x -> x.shopIs(0, 0, 5));
        Lands.refused("26: shopIs(0, 0, -1)", Check.ARGUMENT, x -> x.shopIs(0, 0, -1));
    }

    public static void main(String[] args) {
        promise16();
        promise17();
        promise18();
        promise19();
        promise20();
        promise21();
        buyRefused();
        promise22();
        promise23();
        promise24();
        promise25();
        promise26();
        Check.end();
    }
}
