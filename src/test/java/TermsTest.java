/**
 * The sentences of "Terms" that name a boundary, one after the other, each with its own land. A check's text begins
 * with the number of the promise in which the boundary shows; "34.2" is step 2 of a month's end.
 */
public final class TermsTest {
    private static final int NONE = Pointsbook.NONE;

    /** One depot, two shops, and 50000 grams of each good in each shop; all goods are free. */
    private static Pointsbook full() {
        Pointsbook land = Lands.bare();
        land.shop(0);
        for (int good = 0; good < 6; good++) {
            land.free(good);
            land.ship(0, good, 99999);
            land.ship(0, good, 1);
            land.advance(0, good, 50000);
            land.advance(1, good, 50000);
        }
        return land;
    }

    private static Pointsbook fullWith(int... kinds) {
        Pointsbook land = full();
        for (int kind : kinds) {
            land.person(kind, 0);
        }
        return land;
    }

    private static void dueOne(String text, Pointsbook land, int person, int what, int want) {
        Check.due(text + " personIs(" + person + ", " + what + ")", land.personIs(person, what), want);
    }

    private static void dueLeft(String text, Pointsbook land, int person, int good, int want) {
        Check.due(text + ": left", land.left(person, good), want);
        Check.due(text + ": leftAnew", land.leftAnew(person, good), want);
    }

    // ---- people, goods, books

    private static void atFirst() {
        Pointsbook land = Lands.bare();
        Check.due("8: people are numbered from 0", land.person(Pointsbook.CHILD, 0), 0);
        dueOne("8: the health is 100 at first,", land, 0, 2, 100);
        dueOne("8: the name is none at first,", land, 0, 3, NONE);
        dueOne("8: 20 points at first,", land, 0, 4, 20);
        dueOne("8: nothing eaten at first,", land, 0, 5, 0);
        dueOne("8: alive at first,", land, 0, 6, 0);
        for (int good = 0; good < 6; good++) {
            Check.due("1: rationed at first, good " + good, land.goodIs(good, 0), Pointsbook.RATIONED);
            Check.due("1: the ration is 0 at first, good " + good, land.goodIs(good, 1), 0);
            Check.due("1: the energy is 0 at first, good " + good, land.goodIs(good, 2), 0);
            Check.due("16: a depot has 0 at first, good " + good, land.depotHas(0, good), 0);
            Check.due("17: a shop has 0 at first, good " + good, land.shopIs(0, good, 0), 0);
        }
        land.month();
        Check.due("8: told in a later month", land.person(Pointsbook.CHILD, 0), 1);
        dueOne("8: told in a later month, health", land, 1, 2, 100);
        dueOne("13: no month ended for them, name", land, 1, 3, NONE);
        land.month();
        dueOne("34.2: who was told in the month falls with it,", land, 1, 2, 80);
    }

    /** The dead are still of the 20. */
    private static void twentyWithDead() {
        Pointsbook land = Lands.bare();
        for (int i = 0; i < 19; i++) {
            land.person(Pointsbook.ADULT, 0);
        }
        for (int i = 0; i < 5; i++) {
            land.month();
        }
        Check.due("36: all are dead", land.sum(7), 0);
        Check.due("8: the 20th one", land.person(Pointsbook.ADULT, 0), 19);
        Check.dueThrow("8: 20 with the dead", Check.STATE, () -> land.person(Pointsbook.ADULT, 0));
        Check.due("36: one is alive", land.sum(7), 1);
    }

    private static void gramsByKind() {
        int[][] due = {{1, 0, 1, 1, 1}, {2, 1, 2, 3, 2}, {3, 1, 3, 4, 3}, {5, 2, 5, 7, 6}, {9999, 4999, 9999, 14998, 12498}};
        Pointsbook land = fullWith(0, 1, 2, 3);
        for (int[] row : due) {
            land.ration(0, row[0]);
            for (int kind = 0; kind < 4; kind++) {
                dueLeft("14: rounded down, ration " + row[0] + ", kind " + kind, land, kind, 0, row[kind + 1]);
            }
        }
        land.ration(0, 0);
        dueLeft("14: a ration of 0", land, 2, 0, 0);
        Check.dueThrow("21: of a ration of 0 nothing can be bought", Check.STATE, () -> land.buy(2, 0, 0, 1));
    }

    private static void gramsAsTheyAreNow() {
        Pointsbook land = fullWith(Pointsbook.ADULT);
        land.ration(0, 100);
        land.buy(0, 0, 0, 100);
        dueLeft("14: all is bought", land, 0, 0, 0);
        land.ration(0, 99);
        dueLeft("14: a gram more was bought, 0", land, 0, 0, 0);
        land.ration(0, 101);
        dueLeft("14: by the ration as it is now", land, 0, 0, 1);
        land.becomes(0, Pointsbook.HEAVY);
        dueLeft("14: by the kind as it is now", land, 0, 0, 51);
        land.becomes(0, Pointsbook.CHILD);
        dueLeft("14: a lesser kind, 0", land, 0, 0, 0);
        Check.dueThrow("21: no more for the lesser kind", Check.STATE, () -> land.buy(0, 0, 0, 1));
    }

    private static void asItWasRationed() {
        Pointsbook land = fullWith(Pointsbook.ADULT);
        land.buy(0, 0, 0, 40);
        land.ration(0, 100);
        dueLeft("14: bought as it was free does not count", land, 0, 0, 100);
        land.onPoints(0, 1);
        land.buy(0, 0, 0, 100);
        dueLeft("14: on points nothing is left", land, 0, 0, 0);
        land.ration(0, 100);
        dueLeft("14: bought on points does not count", land, 0, 0, 100);
        land.buy(0, 0, 0, 30);
        land.free(0);
        dueLeft("14: free, nothing is left", land, 0, 0, 0);
        land.ration(0, 100);
        dueLeft("14: bought as it was rationed counts", land, 0, 0, 70);
        land.steal(0, 0, 500);
        land.black(0, 0, 500);
        dueLeft("14: the black market does not count", land, 0, 0, 70);
        Check.due("14: the points that were spent stay spent", land.personIs(0, 4), 19);
    }

    private static void pointsLeft() {
        Pointsbook land = fullWith(1, 1, 1);
        land.onPoints(0, 10);
        land.buy(0, 0, 0, 200);
        dueOne("13: all points spent,", land, 0, 4, 0);
        land.points(21, 2);
        dueOne("13: those told now,", land, 0, 4, 1);
        land.points(19, 2);
        dueOne("13: more spent than told, 0,", land, 0, 4, 0);
        Check.due("11: what was got, less what was spent, 0", land.give(1, 0, 1), 0);
        Check.due("11: what was got, less what was spent, 1", land.give(1, 0, 1), 1);
        dueOne("13: less what was given,", land, 1, 4, 17);
        land.onPoints(0, 24);
        dueOne("13: spent by the price as it was,", land, 0, 4, 1);
        land.month();
        dueOne("13: what was spent in the old month,", land, 0, 4, 19);
        dueOne("13: what was given in the old month,", land, 1, 4, 19);
        land.points(99, 2);
        Check.due("11: 99 are given", land.give(0, 1, 99), 198);
        dueOne("11: none are left,", land, 0, 4, 0);
        Check.due("11: more than 99 are left", land.give(2, 1, 99), 297);
        Check.dueThrow("11: but 100 at once are out of range", Check.ARGUMENT, () -> land.give(1, 0, 100));
        Check.due("11: 1 is given", land.give(1, 0, 1), 1);
        Check.dueThrow("11: one more than is left", Check.STATE, () -> land.give(0, 1, 2));
    }

    private static void goneWithTheMonth() {
        Pointsbook land = fullWith(1, 1);
        land.ration(0, 100);
        land.onPoints(1, 1);
        land.buy(0, 0, 0, 30);
        land.buy(0, 0, 1, 500);
        land.give(1, 0, 4);
        land.month();
        dueLeft("14: what is left is gone with the month", land, 0, 0, 100);
        dueLeft("14: of who bought nothing, too", land, 1, 0, 100);
        dueOne("13: what was got is gone with the month,", land, 0, 4, 20);
        dueOne("13: the points of who gave,", land, 1, 4, 20);
    }

    private static void stolenBook() {
        Pointsbook land = fullWith(1, 1);
        land.ration(0, 100);
        land.onPoints(1, 1);
        land.buy(0, 0, 0, 30);
        land.give(1, 0, 20);
        Check.due("12: none were left", land.stealBook(1), 0);
        Check.due("12: with what was got", land.stealBook(0), 40);
        dueLeft("12: no grams are left", land, 0, 0, 0);
        dueOne("12: no points are left,", land, 0, 4, 0);
        land.ration(0, 9999);
        land.points(99, 2);
        dueLeft("12: nor by a larger ration", land, 0, 0, 0);
        dueOne("12: nor by more points told,", land, 0, 4, 0);
        Check.dueThrow("11: nothing is got", Check.STATE, () -> land.give(1, 0, 1));
        Check.dueThrow("21: nothing rationed is bought", Check.STATE, () -> land.buy(0, 0, 0, 1));
        Check.dueThrow("21: nothing on points is bought", Check.STATE, () -> land.buy(0, 0, 1, 100));
        Check.due("21: what is free is bought", land.buy(0, 0, 2, 1), NONE);
        land.steal(0, 0, 100);
        Check.due("30: the black market needs no book", land.black(0, 0, 100), 50);
        Check.due("9: one of another kind without a book", land.becomes(0, Pointsbook.HEAVY), Pointsbook.ADULT);
        Check.due("10: one moves without a book", land.moves(0, 1), 0);
        land.month();
        dueLeft("12: for that month alone, grams", land, 0, 0, 14998);
        dueOne("12: for that month alone, points,", land, 0, 4, 99);
        Check.due("11: something is got again", land.give(1, 0, 1), 100);
    }

    private static void theDead() {
        Pointsbook land = fullWith(1, 1);
        land.ration(0, 100);
        land.points(20, 2);
        for (int i = 0; i < 5; i++) {
            land.energy(2, 900);
            land.buy(1, 0, 2, 400);
            land.month();
        }
        dueOne("34.2: dead,", land, 0, 6, 1);
        dueLeft("14: to a dead one nothing is left", land, 0, 0, 0);
        dueOne("13: to a dead one no points are left,", land, 0, 4, 0);
        Check.dueThrow("21: a dead one buys nothing rationed", Check.STATE, () -> land.buy(0, 0, 0, 1));
        Check.dueThrow("21: a dead one buys nothing free", Check.STATE, () -> land.buy(0, 0, 2, 1));
        land.onPoints(1, 1);
        land.steal(0, 0, 100);
        Check.dueThrow("21: a dead one buys nothing on points", Check.STATE, () -> land.buy(0, 0, 1, 100));
        Check.dueThrow("30: nor on the black market", Check.STATE, () -> land.black(0, 0, 1));
        Check.dueThrow("11: nothing is given by a dead one", Check.STATE, () -> land.give(0, 1, 1));
        Check.dueThrow("11: nor to one", Check.STATE, () -> land.give(1, 0, 1));
        Check.dueThrow("11: no such one, ahead of the dead", Check.INDEX, () -> land.give(0, 2, 1));
        Check.dueThrow("12: no book of a dead one is stolen", Check.STATE, () -> land.stealBook(0));
        Check.dueThrow("9: a dead one becomes nothing", Check.STATE, () -> land.becomes(0, 0));
        Check.dueThrow("10: a dead one moves nowhere", Check.STATE, () -> land.moves(0, 1));
        land.month();
        dueOne("13: the health of a dead one,", land, 0, 2, 0);
        dueOne("34.2: the dead stay dead,", land, 0, 6, 1);
    }

    // ---- shops, depots

    private static void buyRationed() {
        Pointsbook land = fullWith(1, 2);
        land.ration(0, 9999);
        Check.dueThrow("21: not where one is not registered", Check.STATE, () -> land.buy(0, 1, 0, 1));
        Check.dueThrow("21: 10000 grams at once", Check.ARGUMENT, () -> land.buy(1, 0, 0, 10000));
        Check.due("21: as many as are left", land.buy(0, 0, 0, 9999), 0);
        Check.dueThrow("21: a gram more", Check.STATE, () -> land.buy(0, 0, 0, 1));
        Check.due("21: 9999 grams at once", land.buy(1, 0, 0, 9999), 4999);
        Check.dueThrow("21: a gram more than is left", Check.STATE, () -> land.buy(1, 0, 0, 5000));
        Check.due("21: a gram", land.buy(1, 0, 0, 1), 4998);
        Check.due("26: coupons for as many grams", land.shopIs(0, 0, 1), 19999);
    }

    private static void buyOnPoints() {
        Pointsbook land = fullWith(1);
        land.onPoints(0, 24);
        Check.dueThrow("21: the price is more than is left", Check.STATE, () -> land.buy(0, 0, 0, 100));
        land.points(23, 2);
        Check.dueThrow("21: a point less than the price", Check.STATE, () -> land.buy(0, 0, 0, 100));
        land.points(24, 2);
        Check.due("21: as many points as are left, at any shop", land.buy(0, 1, 0, 100), 0);
        land.points(99, 2);
        land.onPoints(0, 1);
        int[] wrong = {Integer.MIN_VALUE, -100, 0, 1, 99, 101, 9999, 10000, Integer.MAX_VALUE};
        for (int grams : wrong) {
            Check.dueThrow("21: on points, " + grams + " grams", Check.ARGUMENT, () -> land.buy(0, 0, 0, grams));
        }
        Check.dueThrow("21: no whole hundred of what the shop has not", Check.ARGUMENT,
            () -> Lands.land().buy(0, 1, 1, 50));
        Check.due("21: a point for each hundred", land.buy(0, 0, 0, 7400), 1);
        Check.due("21: the last point", land.buy(0, 0, 0, 100), 0);
        Check.dueThrow("21: without points", Check.STATE, () -> land.buy(0, 0, 0, 100));
        land.month();
        Check.due("21: the most on points", land.buy(0, 0, 0, 9900), 0);
        Check.due("26: coupons for as many grams", land.shopIs(0, 0, 1), 17400);
        Check.due("26: coupons at the other shop", land.shopIs(1, 0, 1), 100);
    }

    private static void buyFree() {
        Pointsbook land = fullWith(1);
        Check.due("21: free, at any shop", land.buy(0, 1, 0, 9999), NONE);
        Check.due("21: free, no whole hundred", land.buy(0, 0, 0, 1), NONE);
        Check.dueThrow("21: free, 10000 at once", Check.ARGUMENT, () -> land.buy(0, 0, 0, 10000));
        Check.due("26: free, no coupons", land.shopIs(0, 0, 1), 0);
        Check.due("36: free is eaten, too", land.sum(4), 10000);
        Check.dueThrow("22: free, nothing to claim", Check.STATE, () -> land.claim(0, 0, 1));
    }

    private static void shopHasTooLittle() {
        Pointsbook land = Lands.bare();
        land.person(Pointsbook.ADULT, 0);
        land.ration(0, 500);
        land.onPoints(1, 1);
        land.free(2);
        for (int good = 0; good < 3; good++) {
            int asked = good;
            land.ship(0, good, 300);
            Check.dueThrow("21: what only the depot has, good " + good, Check.STATE, () -> land.buy(0, 0, asked, 100));
            land.advance(0, good, 299);
            Check.dueThrow("21: a gram less than is bought, good " + good, Check.STATE,
                () -> land.buy(0, 0, asked, 300));
            land.advance(0, good, 1);
        }
        Check.due("21: all that the shop has, rationed", land.buy(0, 0, 0, 300), 200);
        Check.due("21: all that the shop has, on points", land.buy(0, 0, 1, 300), 17);
        Check.due("21: all that the shop has, free", land.buy(0, 0, 2, 300), NONE);
        Check.due("36: nothing lies in shops", land.sum(3), 0);
    }

    /** Depots 0, 1, 2, each below the one before, and a shop at 2; each depot has a bit more than the one below. */
    private static Pointsbook pyramid() {
        Pointsbook land = new Pointsbook();
        land.depot(NONE);
        land.depot(0);
        land.depot(1);
        land.shop(2);
        land.ship(0, 0, 300);
        land.ship(1, 0, 200);
        land.ship(2, 0, 100);
        return land;
    }

    private static void dueDepots(String text, Pointsbook land, int first, int second, int third) {
        Check.due(text + ", depot 0", land.depotHas(0, 0), first);
        Check.due(text + ", depot 1", land.depotHas(1, 0), second);
        Check.due(text + ", depot 2", land.depotHas(2, 0), third);
    }

    private static void supply() {
        int[][] due = {{99, 300, 200, 1}, {100, 300, 200, 0}, {101, 300, 199, 0}, {300, 300, 0, 0}, {301, 299, 0, 0},
            {600, 0, 0, 0}};
        for (int[] row : due) {
            Pointsbook land = pyramid();
            Check.due("23: supplied with " + row[0], land.advance(0, 0, row[0]), row[0]);
            dueDepots("23: supplied with " + row[0], land, row[1], row[2], row[3]);
            Check.due("23: the shop has " + row[0], land.shopIs(0, 0, 0), row[0]);
            Check.due("36: none are lost on the way of " + row[0], land.sum(2) + land.sum(3), 600);
        }
        Pointsbook land = pyramid();
        Check.dueThrow("23: a gram more than all have", Check.STATE, () -> land.advance(0, 0, 601));
        dueDepots("23: nothing moves anywhere", land, 300, 200, 100);
        Check.due("23: nothing comes to the shop", land.shopIs(0, 0, 0), 0);
        Check.due("23: nothing is owed", land.shopIs(0, 0, 2), 0);
        land.forge(0, 0, 601);
        Check.dueThrow("22: a gram more than all have", Check.STATE, () -> land.claim(0, 0, 601));
        dueDepots("22: nothing moves anywhere", land, 300, 200, 100);
        Check.due("22: the coupons stay", land.shopIs(0, 0, 1), 601);
        Check.due("22: all that all have", land.claim(0, 0, 600), 600);
        dueDepots("22: all that all have", land, 0, 0, 0);
        Check.due("22: one coupon stays", land.shopIs(0, 0, 1), 1);
    }

    /** A shop at the first depot asks nobody, and one at the second not the third. */
    private static void noneToAsk() {
        Pointsbook land = pyramid();
        land.shop(0);
        land.shop(1);
        Check.dueThrow("23: the first one has none to ask", Check.STATE, () -> land.advance(1, 0, 301));
        Check.dueThrow("23: nobody asks below", Check.STATE, () -> land.advance(2, 0, 501));
        Check.due("25: the first one lacks some", land.lacks(1, 0, 301, 0), 1);
        Check.due("25: as many grams", land.lacks(1, 0, 301, 1), 1);
        Check.due("25: its number", land.lacks(1, 0, 301, 2), 0);
        Check.due("25: just enough", land.lacks(1, 0, 300, 0), 0);
        Check.due("25: just enough, grams", land.lacks(1, 0, 300, 1), 0);
        Check.due("25: just enough, number", land.lacks(1, 0, 300, 2), NONE);
        Check.due("23: all of the first one", land.advance(1, 0, 300), 300);
        Check.due("23: then all of the second", land.advance(2, 0, 200), 200);
        Check.due("25: all three lack some", land.lacks(0, 0, 101, 0), 3);
        dueDepots("25: nothing moves", land, 0, 0, 100);
    }

    private static void claims() {
        Pointsbook land = fullWith(2);
        land.ship(0, 0, 99999);
        land.ship(0, 0, 99999);
        for (int i = 0; i < 11; i++) {
            land.forge(0, 0, 9999);
        }
        Check.dueThrow("22: 100000 at once", Check.ARGUMENT, () -> land.claim(0, 0, 100000));
        Check.due("22: 99999 at once", land.claim(0, 0, 99999), 149999);
        Check.dueThrow("22: a coupon fewer", Check.STATE, () -> land.claim(0, 0, 9991));
        Check.dueThrow("22: coupons of the other shop", Check.STATE, () -> land.claim(1, 0, 1));
        Check.dueThrow("22: coupons of another good", Check.STATE, () -> land.claim(0, 1, 1));
        Check.due("22: all coupons", land.claim(0, 0, 9990), 159989);
        Check.due("26: none are left", land.shopIs(0, 0, 1), 0);
        Check.due("26: owed as before", land.shopIs(0, 0, 2), 50000);
    }

    private static void settling() {
        int[][] due = {{0, 0, 0, 50}, {49, 49, 0, 1}, {50, 50, 0, 0}, {51, 50, 1, 0}};
        for (int[] row : due) {
            Pointsbook land = Lands.bare();
            land.ship(0, 0, 50);
            land.advance(0, 0, 50);
            if (row[0] > 0) {
                land.forge(0, 0, row[0]);
            }
            Check.due("24: paid of 50 with " + row[0], land.settle(0, 0), row[1]);
            Check.due("24: coupons of " + row[0], land.shopIs(0, 0, 1), row[2]);
            Check.due("24: owed with " + row[0], land.shopIs(0, 0, 2), row[3]);
            Check.due("24: the grams stay", land.shopIs(0, 0, 0), 50);
            Check.due("24: no other good", land.settle(0, 1), 0);
        }
    }

    private static void audit() {
        Pointsbook land = fullWith(1);
        Check.due("26: nothing is missing", land.shopIs(0, 0, 3), 0);
        land.buy(0, 0, 0, 100);
        Check.due("26: what was bought is not missing", land.shopIs(0, 0, 3), 0);
        land.steal(0, 0, 9999);
        Check.due("26: what was stolen is", land.shopIs(0, 0, 3), 9999);
        land.black(0, 0, 9999);
        Check.due("26: also when it was sold black", land.shopIs(0, 0, 3), 9999);
        land.month();
        Check.due("26: and in a later month", land.shopIs(0, 0, 3), 9999);
        land.forge(0, 0, 10);
        land.ration(0, 100);
        land.buy(0, 0, 0, 20);
        Check.due("26: only forged ones are too many", land.shopIs(0, 0, 4), 10);
        land.ship(0, 0, 40);
        land.ship(0, 1, 5);
        land.forge(0, 1, 5);
        land.claim(0, 1, 5);
        Check.due("26: supplied by a claim, nothing is missing", land.shopIs(0, 1, 3), 0);
        land.claim(0, 0, 25);
        Check.due("29: as far as the shop has so many", land.inspect(0), 5);
        Check.due("26: the rest is too many still", land.shopIs(0, 0, 4), 5);
        Check.due("26: an inspector brings nothing back", land.shopIs(0, 0, 3), 9999);
        Check.due("26: no coupon is left", land.shopIs(0, 0, 1), 0);
        Check.due("29: of none none are taken", land.inspect(0), 0);
    }

    private static void inspectors() {
        Pointsbook land = fullWith(1);
        land.ration(0, 100);
        land.buy(0, 0, 0, 100);
        Check.due("29: good coupons stay", land.inspect(0), 0);
        Check.due("29: good coupons stay there", land.shopIs(0, 0, 1), 100);
        land.forge(0, 0, 1);
        land.forge(0, 5, 1);
        land.forge(1, 0, 7);
        Check.due("29: of all goods, of this shop", land.inspect(0), 2);
        Check.due("29: as many as were forged", land.shopIs(0, 0, 1), 100);
        Check.due("29: the other shop's stay", land.shopIs(1, 0, 1), 7);
        Check.due("29: nothing is paid by it", land.shopIs(0, 0, 2), 50000);
        land.forge(0, 0, 60);
        Check.due("29: paid ones are not there", land.settle(0, 0), 160);
        Check.due("29: nothing can be taken", land.inspect(0), 0);
        Check.due("29: they are too many still", land.shopIs(0, 0, 4), 60);
    }

    private static void blackPrice() {
        Pointsbook land = fullWith(1);
        land.steal(0, 0, 9999);
        Check.due("30: 50 cents", land.black(0, 0, 100), 50);
        Check.due("30: a part, rounded down", land.black(0, 0, 1), 0);
        Check.due("30: 2 grams", land.black(0, 0, 2), 1);
        Check.due("30: 99 grams", land.black(0, 0, 99), 49);
        Check.due("30: 101 grams", land.black(0, 0, 101), 50);
        land.inspect(0);
        Check.due("30: 25 for a visit", land.black(0, 0, 100), 75);
        land.inspect(0);
        Check.due("30: and for the next to the same shop", land.black(0, 0, 100), 100);
        land.inspect(1);
        Check.due("30: of whatever shop", land.black(0, 0, 100), 125);
        land.steal(1, 1, 100);
        Check.due("30: of whatever good", land.black(0, 1, 100), 125);
        land.month();
        Check.due("30: in this month alone", land.black(0, 0, 100), 50);
        land.inspect(0);
        Check.due("30: a visit in the new month", land.black(0, 0, 3), 2);
        Check.due("36: all cents", land.sum(8), 50 + 0 + 1 + 49 + 50 + 75 + 100 + 125 + 125 + 50 + 2);
    }

    private static void blackHasFewer() {
        Pointsbook land = fullWith(1);
        land.steal(0, 0, 500);
        Check.dueThrow("30: a gram more than it has", Check.STATE, () -> land.black(0, 0, 501));
        Check.dueThrow("30: another good", Check.STATE, () -> land.black(0, 1, 1));
        Check.due("30: all that it has", land.black(0, 0, 500), 250);
        Check.dueThrow("30: then it has none", Check.STATE, () -> land.black(0, 0, 1));
        Check.due("36: it has none", land.sum(6), 0);
        Check.due("28: a gram comes to it", land.steal(1, 0, 1), 1);
    }

    private static void eaten() {
        Pointsbook land = fullWith(1);
        land.ration(0, 999);
        land.onPoints(1, 1);
        for (int good = 0; good < 4; good++) {
            land.energy(good, 333);
        }
        land.buy(0, 0, 0, 1);
        dueOne("13: rationed is eaten, rounded down,", land, 0, 5, 3);
        land.buy(0, 0, 1, 100);
        dueOne("13: on points is eaten,", land, 0, 5, 336);
        land.buy(0, 0, 2, 10);
        dueOne("13: free is eaten,", land, 0, 5, 369);
        land.steal(0, 3, 2);
        land.black(0, 3, 1);
        dueOne("13: black is eaten,", land, 0, 5, 372);
        land.energy(3, 900);
        dueOne("13: with the energy as it was then,", land, 0, 5, 372);
        land.black(0, 3, 1);
        dueOne("13: and as it is now,", land, 0, 5, 381);
        land.energy(0, 0);
        land.buy(0, 0, 0, 900);
        dueOne("13: without energy,", land, 0, 5, 381);
        Check.due("36: grams of all", land.sum(4), 1 + 100 + 10 + 1 + 1 + 900);
        land.month();
        dueOne("13: in this month alone,", land, 0, 5, 0);
        Check.due("36: grams since the first month", land.sum(4), 1013);
    }

    // ---- farms, months

    private static void farms() {
        Pointsbook land = Lands.bare();
        land.month();
        Check.due("31: farms are numbered from 0", land.farm(0, 2, 1), 0);
        Check.due("31: the most quota", land.farm(0, 2, 99999), 1);
        Check.due("33: it has not failed at first", land.failed(0), 0);
        land.deliver(1, 99998);
        land.month();
        Check.due("33: in the month in which it is told, with nothing", land.failed(0), 1);
        Check.due("33: a gram less than the quota", land.failed(1), 1);
        land.deliver(0, 1);
        land.deliver(1, 99999);
        land.month();
        Check.due("33: the least quota is met", land.failed(0), 1);
        Check.due("33: the most quota is met", land.failed(1), 1);
        land.deliver(1, 99998);
        land.deliver(1, 1);
        land.month();
        Check.due("33: met by two deliveries", land.failed(1), 1);
        Check.due("33: once more", land.failed(0), 2);
        Check.due("32: what comes is in its depot", land.depotHas(0, 2), 99998 + 1 + 99999 + 99999);
        Check.due("36: and came", land.sum(1), 99998 + 1 + 99999 + 99999);
    }

    /** A good has 100 by 100 grams, so that grams are energy. */
    private static Pointsbook eater(int kind) {
        Pointsbook land = fullWith(kind);
        land.energy(0, 100);
        return land;
    }

    private static void endMonth(Pointsbook land, int eaten) {
        if (eaten > 0) {
            land.buy(0, 0, 0, eaten);
        }
        land.month();
    }

    private static void needs() {
        int[] needs = {800, 1600, 2400, 2000};
        for (int kind = 0; kind < 4; kind++) {
            int[][] due = {{0, 80}, {needs[kind] / 2 - 1, 80}, {needs[kind] / 2, 95}, {needs[kind] - 1, 95},
                {needs[kind], 100}, {needs[kind] + 1, 100}};
            for (int[] row : due) {
                Pointsbook land = eater(kind);
                endMonth(land, row[0]);
                String text = "34.2: kind " + kind + " eats " + row[0] + ",";
                dueOne(text, land, 0, 2, row[1]);
                dueOne(text, land, 0, 3, row[1] == 100 ? NONE : Pointsbook.UNSPENT);
            }
        }
    }

    private static void healthMost() {
        Pointsbook land = eater(0);
        endMonth(land, 400);
        endMonth(land, 800);
        dueOne("34.2: 3 more,", land, 0, 2, 98);
        endMonth(land, 800);
        dueOne("34.2: 100 at most,", land, 0, 2, 100);
        Pointsbook exact = eater(0);
        endMonth(exact, 0);
        for (int i = 0; i < 5; i++) {
            endMonth(exact, 800);
        }
        endMonth(exact, 400);
        dueOne("34.2: 80 and 15 less 5,", exact, 0, 2, 90);
        for (int i = 0; i < 3; i++) {
            endMonth(exact, 800);
        }
        dueOne("34.2: 99 is no end,", exact, 0, 2, 99);
        endMonth(exact, 800);
        dueOne("34.2: 102 is 100,", exact, 0, 2, 100);
    }

    private static void deathByFive() {
        Pointsbook land = eater(0);
        for (int i = 0; i < 4; i++) {
            endMonth(land, 0);
        }
        for (int i = 0; i < 3; i++) {
            endMonth(land, 400);
        }
        dueOne("34.2: 5 is alive,", land, 0, 2, 5);
        dueOne("34.2: 5 is alive,", land, 0, 6, 0);
        land.ration(1, 1);
        land.steal(0, 1, 9999);
        endMonth(land, 799);
        dueOne("34.2: 0 is dead,", land, 0, 2, 0);
        dueOne("34.2: 0 is dead,", land, 0, 6, 1);
        dueOne("34.2: the name of a fall by which they die,", land, 0, 3, Pointsbook.UNSPENT);
        Pointsbook below = eater(0);
        endMonth(below, 400);
        for (int i = 0; i < 4; i++) {
            endMonth(below, 0);
        }
        dueOne("34.2: 15 is alive,", below, 0, 6, 0);
        below.stealBook(0);
        endMonth(below, 0);
        dueOne("34.2: below 0 is dead,", below, 0, 6, 1);
        dueOne("13: health of a dead one is 0,", below, 0, 2, 0);
        dueOne("34.2: stolen ahead of the death,", below, 0, 3, Pointsbook.STOLEN);
        endMonth(below, 0);
        dueOne("34.2: a dead one keeps the name,", below, 0, 3, Pointsbook.STOLEN);
    }

    /** In a bare land shop 0 has 10 of good 1, and shop 1 has 99 of it. */
    private static Pointsbook hungry() {
        Pointsbook land = Lands.bare();
        land.shop(0);
        land.ship(0, 1, 109);
        land.advance(0, 1, 10);
        land.advance(1, 1, 99);
        land.person(Pointsbook.ADULT, 0);
        return land;
    }

    private static void names() {
        Pointsbook land = hungry();
        land.ration(1, 10);
        land.month();
        dueOne("34.2: as many as the shop has,", land, 0, 3, Pointsbook.UNSPENT);
        land.ration(1, 11);
        land.month();
        dueOne("34.2: a gram more than the shop has, whatever another has,", land, 0, 3, Pointsbook.LACKED);
        land.stealBook(0);
        land.month();
        dueOne("34.2: stolen ahead of lacked,", land, 0, 3, Pointsbook.STOLEN);
        Check.due("21: one of the 11", land.buy(0, 0, 1, 1), 10);
        land.month();
        dueOne("34.2: 10 are left, the shop has 9,", land, 0, 3, Pointsbook.LACKED);
        dueOne("34.2: after four falls,", land, 0, 2, 20);
        land.becomes(0, Pointsbook.CHILD);
        land.month();
        dueOne("34.2: by the kind, and by death,", land, 0, 3, Pointsbook.UNSPENT);
        for (int good = 0; good < 6; good++) {
            Pointsbook lacking = hungry();
            lacking.ration(good, 100);
            lacking.month();
            dueOne("34.2: lacked is good " + good + ",", lacking, 0, 3, Pointsbook.LACKED);
        }
    }

    private static void namesOfOtherGoods() {
        Pointsbook land = hungry();
        land.ration(1, 100);
        land.onPoints(1, 1);
        land.month();
        dueOne("34.2: on points nothing is lacked,", land, 0, 3, Pointsbook.UNSPENT);
        land.ration(1, 100);
        land.free(1);
        land.month();
        dueOne("34.2: of what is free nothing is lacked,", land, 0, 3, Pointsbook.UNSPENT);
        land.ration(1, 100);
        land.moves(0, 1);
        land.month();
        dueOne("34.2: at the shop of the month that ends,", land, 0, 3, Pointsbook.LACKED);
        dueOne("34.4: then at the new one,", land, 0, 1, 1);
        land.ration(1, 99);
        land.free(2);
        land.energy(2, 900);
        land.ship(0, 2, 400);
        land.advance(0, 2, 400);
        land.buy(0, 0, 2, 177);
        land.month();
        dueOne("34.2: a small fall has a name,", land, 0, 3, Pointsbook.UNSPENT);
        dueOne("34.2: a small fall,", land, 0, 2, 35);
        land.stealBook(0);
        land.buy(0, 0, 2, 178);
        land.month();
        dueOne("34.2: no fall, no name, though the book was stolen,", land, 0, 3, NONE);
        dueOne("34.2: no fall,", land, 0, 2, 38);
    }

    /** So many grams on points are sold of all; what else lies is at the other shop. */
    private static int newPrice(int price, int jump, int sold, int lies) {
        Pointsbook land = Lands.bare();
        land.shop(0);
        land.person(Pointsbook.ADULT, 0);
        land.points(99, jump);
        land.onPoints(0, 1);
        if (sold > 0) {
            land.ship(0, 0, sold);
            land.advance(0, 0, sold);
            land.buy(0, 0, 0, sold);
        }
        if (lies > 0) {
            land.ship(0, 0, lies);
            land.advance(1, 0, lies);
        }
        land.onPoints(0, price);
        land.month();
        return land.goodIs(0, 1);
    }

    private static void prices() {
        Check.due("34.3: without both", newPrice(12, 9, 0, 0), 12);
        Check.due("34.3: nothing sold, a gram lies", newPrice(12, 9, 0, 1), 9);
        Check.due("34.3: sold, nothing lies", newPrice(12, 9, 100, 0), 15);
        Check.due("34.3: 2.99 tenths are 2", newPrice(12, 9, 2900, 6800), 11);
        Check.due("34.3: 3 tenths", newPrice(12, 9, 300, 700), 12);
        Check.due("34.3: 7 tenths", newPrice(12, 9, 700, 300), 12);
        Check.due("34.3: 7.99 tenths are 7", newPrice(12, 9, 7900, 1980), 12);
        Check.due("34.3: 8 tenths", newPrice(12, 9, 800, 200), 13);
        Check.due("34.3: 9.99 tenths are 9", newPrice(12, 9, 9900, 1), 14);
        Check.due("34.3: the jump at most, upwards", newPrice(12, 2, 100, 0), 14);
        Check.due("34.3: a jump of 1, upwards", newPrice(12, 1, 100, 0), 13);
        Check.due("34.3: a jump of 0, upwards", newPrice(12, 0, 100, 0), 12);
        Check.due("34.3: the jump at most, downwards", newPrice(12, 2, 0, 1), 10);
        Check.due("34.3: a jump of 0, downwards", newPrice(12, 0, 0, 1), 12);
        Check.due("34.3: a jump of 3 is enough", newPrice(12, 3, 100, 0), 15);
        Check.due("34.3: just 24", newPrice(21, 9, 100, 0), 24);
        Check.due("34.3: 24 at most", newPrice(22, 9, 100, 0), 24);
        Check.due("34.3: 24 stays", newPrice(24, 9, 100, 0), 24);
        Check.due("34.3: just 1", newPrice(4, 9, 0, 1), 1);
        Check.due("34.3: 1 at least", newPrice(3, 9, 0, 1), 1);
        Check.due("34.3: 1 stays", newPrice(1, 9, 0, 1), 1);
    }

    private static void pricesOfTheMonth() {
        Pointsbook land = fullWith(1);
        land.onPoints(0, 12);
        land.month();
        Check.due("34.3: the jump is 2 at first", land.goodIs(0, 1), 10);
        land.steal(0, 0, 9999);
        land.black(0, 0, 9999);
        land.month();
        Check.due("34.3: what is sold black does not count", land.goodIs(0, 1), 8);
        land.ration(1, 24);
        land.free(2);
        land.month();
        Check.due("34.3: no ration is priced", land.goodIs(1, 1), 24);
        Check.due("34.3: nothing free is priced", land.goodIs(2, 1), 0);
        Pointsbook scarce = Lands.bare();
        scarce.person(Pointsbook.ADULT, 0);
        scarce.ration(0, 100);
        scarce.ship(0, 0, 99999);
        scarce.advance(0, 0, 100);
        scarce.buy(0, 0, 0, 100);
        scarce.onPoints(0, 5);
        Check.due("7: sold, as it was rationed", scarce.goodIs(0, 3), 100);
        scarce.month();
        Check.due("34.3: bought as it was rationed; what depots have does not lie", scarce.goodIs(0, 1), 7);
        Check.due("7: sold in the new month", scarce.goodIs(0, 3), 0);
        scarce.month();
        Check.due("34.3: nothing sold in the new month, nothing lies", scarce.goodIs(0, 1), 7);
    }

    private static void newMonth() {
        Pointsbook land = fullWith(1, 1);
        land.moves(0, 1);
        land.moves(1, 1);
        land.moves(1, 0);
        Check.due("34.4: the month is 1 more", land.month(), 1);
        dueOne("34.4: who has moved,", land, 0, 1, 1);
        dueOne("34.4: in place of where they would move,", land, 1, 1, 0);
        Check.due("34.4: the month is 1 more again", land.month(), 2);
        dueOne("34.4: who has moved stays,", land, 0, 1, 1);
        Check.due("36: the month", land.sum(0), 2);
    }

    private static void diets() {
        Pointsbook land = new Pointsbook();
        land.energy(0, 100);
        Check.due("35: rationed energy", land.diet(1), NONE);
        land.onPoints(1, 1);
        Check.due("35: on points without energy", land.diet(1), NONE);
        land.onPoints(0, 24);
        Check.due("35: less than a hundred grams have", land.diet(1), 24);
        Check.due("35: just what a hundred grams have", land.diet(100), 24);
        Check.due("35: a bit more", land.diet(101), 48);
        Check.due("35: the most, 30 times", land.diet(3000), 720);
        land.onPoints(2, 1);
        land.energy(2, 4);
        Check.due("35: 25 of the other are dearer", land.diet(100), 24);
        Check.due("35: 24 of the other are as dear", land.diet(96), 24);
        Check.due("35: 23 of the other are cheaper", land.diet(92), 23);
        Check.due("35: both", land.diet(101), 25);
        land.free(0);
        Check.due("35: what is free is not on points", land.diet(100), 25);
        land.energy(2, 0);
        Check.due("35: none has energy any more", land.diet(3000), NONE);
        Pointsbook priced = full();
        priced.onPoints(0, 12);
        priced.energy(0, 900);
        Check.due("35: by the price", priced.diet(901), 24);
        priced.month();
        Check.due("35: by the price of the new month", priced.diet(901), 20);
    }

    private static void sums() {
        Pointsbook land = fullWith(1);
        land.farm(0, 5, 9);
        land.deliver(0, 9);
        Check.due("19: just what it has is lost", land.lose(0, 5, 9), 0);
        Check.dueThrow("19: a gram more than it has", Check.STATE, () -> land.lose(0, 5, 1));
        land.steal(0, 5, 30);
        land.black(0, 5, 10);
        land.buy(0, 1, 4, 200);
        int[] due = {0, 600009, 0, 600000 - 30 - 200, 210, 9, 20, 1, 5};
        for (int what = 0; what < due.length; what++) {
            Check.due("36: sum(" + what + ")", land.sum(what), due[what]);
        }
        Check.due("36: what came is somewhere", land.sum(2) + land.sum(3) + land.sum(4) + land.sum(5) + land.sum(6),
            land.sum(1));
    }

    public static void main(String[] args) {
        atFirst();
        twentyWithDead();
        gramsByKind();
        gramsAsTheyAreNow();
        asItWasRationed();
        pointsLeft();
        goneWithTheMonth();
        stolenBook();
        theDead();
        buyRationed();
        buyOnPoints();
        buyFree();
        shopHasTooLittle();
        supply();
        noneToAsk();
        claims();
        settling();
        audit();
        inspectors();
        blackPrice();
        blackHasFewer();
        eaten();
        farms();
        needs();
        healthMost();
        deathByFive();
        names();
        namesOfOtherGoods();
        prices();
        pricesOfTheMonth();
        newMonth();
        diets();
        sums();
        Check.end();
    }
}
