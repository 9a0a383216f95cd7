/** Promises 31 to 36: farm, deliver, failed, month, diet, sum. */
public final class MonthsTest {
    private static void promise31() {
        Pointsbook land = Lands.bare();
        for (int i = 0; i < 6; i++) {
            Check.due("31: farm", land.farm(0, i, i == 0 ? 99999 : i), i);
        }
        Check.dueThrow("31: farm of 7", Check.STATE, () -> land.farm(0, 0, 1));
        Check.dueThrow("31: farm(0, 0, 0) of 7", Check.ARGUMENT, () -> land.farm(0, 0, 0));
        Check.dueThrow("31: farm(0, 6, 0) of 7", Check.INDEX, () -> land.farm(0, 6, 0));
        Check.dueThrow("31: failed(6)", Check.INDEX, () -> land.failed(6));
        Lands.refused("31: farm(2, 0, 0)", Check.INDEX, x -> x.farm(2, 0, 0));
        Lands.refused("31: farm(-1, 0, 1)", Check.INDEX, x -> x.farm(-1, 0, 1));
        Lands.refused("31: farm(0, 6, 0)", Check.INDEX, x -> x.farm(0, 6, 0));
        Lands.refused("31: farm(0, -1, 1)", Check.INDEX, x -> x.farm(0, -1, 1));
        Lands.refused("31: farm(0, 0, 0)", Check.ARGUMENT, x -> x.farm(0, 0, 0));
        Lands.refused("31: farm(0, 0, 100000)", Check.ARGUMENT, x -> x.farm(0, 0, 100000));
    }

    private static void promise32() {
        Pointsbook land = Lands.land();
        land.farm(1, 5, 10);
        Check.due("32: deliver", land.deliver(0, 99999), 99999);
        Check.due("32: deliver more", land.deliver(0, 1), 100000);
        Check.due("32: the other one", land.deliver(1, 4), 4);
        Check.due("32: its depot", land.depotHas(0, 3), 100000);
        Check.due("32: the other's depot", land.depotHas(1, 5), 4);
        Check.due("32: came", land.sum(1), 11100 + 100004);
        land.month();
        Check.due("32: anew", land.deliver(0, 2), 2);
        Lands.refused("32: deliver(1, 0)", Check.INDEX, x -> x.deliver(1, 0));
        Lands.refused("32: deliver(-1, 1)", Check.INDEX, x -> x.deliver(-1, 1));
        Lands.refused("32: deliver(0, 0)", Check.ARGUMENT, x -> x.deliver(0, 0));
        Lands.refused("32: deliver(0, 100000)", Check.ARGUMENT, x -> x.deliver(0, 100000));
    }

    private static void promise33() {
        Pointsbook land = Lands.land();
        land.farm(0, 3, 5);
        land.deliver(0, 699);
        land.deliver(1, 5);
        Check.due("33: not yet", land.failed(0), 0);
        land.month();
        Check.due("33: one gram less", land.failed(0), 1);
        Check.due("33: just as many", land.failed(1), 0);
        land.deliver(0, 701);
        land.month();
        Check.due("33: none for the old month", land.failed(0), 1);
        Check.due("33: nothing delivered", land.failed(1), 1);
        land.month();
        Check.due("33: once more", land.failed(0), 2);
        Check.due("33: once more", land.failed(1), 2);
        Lands.refused("33: failed(1)", Check.INDEX, x -> x.failed(1));
        Lands.refused("33: failed(-1)", Check.INDEX, x -> x.failed(-1));
    }

    private static void promise34() {
        Pointsbook land = new Pointsbook();
        for (int i = 1; i <= 240; i++) {
            Check.due("34: month", land.month(), i);
        }
        Check.dueThrow("34: month at 240", Check.STATE, land::month);
        Check.due("34: still 240", land.sum(0), 240);
    }

    /** All that a month's end would change is there: a farm, hunger, a price, a move, a book. */
    private static Pointsbook atTheEnd() {
        Pointsbook land = Lands.bare();
        land.shop(0);
        for (int i = 0; i < 239; i++) {
            land.month();
        }
        land.person(Pointsbook.ADULT, 0);
        land.month();
        land.farm(0, 3, 10);
        land.onPoints(1, 20);
        land.ship(0, 1, 5);
        land.advance(0, 1, 5);
        land.give(land.person(Pointsbook.CHILD, 0), 0, 3);
        land.moves(0, 1);
        land.stealBook(1);
        return land;
    }

    private static void lastMonth() {
        Pointsbook land = atTheEnd();
        Check.dueThrow("34: month() at 240", Check.STATE, land::month);
        Check.due("34: month() at 240 changes nothing", Lands.look(land).equals(Lands.look(atTheEnd())) ? 1 : 0, 1);
        Check.due("34: 240 months", land.sum(0), 240);
    }

    /** One adult (need 1600) who eats so much of a good with 100 by 100 grams. */
    private static Pointsbook eater(int grams) {
        Pointsbook land = Lands.bare();
        land.free(0);
        land.energy(0, 100);
        land.person(Pointsbook.ADULT, 0);
        land.ship(0, 0, 99999);
        land.advance(0, 0, 99999);
        if (grams > 0) {
            land.buy(0, 0, 0, grams);
        }
        return land;
    }

    private static void dueHealth(String text, Pointsbook land, int health, int name) {
        Check.due(text + " health", land.personIs(0, 2), health);
        Check.due(text + " name", land.personIs(0, 3), name);
    }

    private static void healthByEnergy() {
        int[][] due = {{0, 80, 2}, {799, 80, 2}, {800, 95, 2}, {1599, 95, 2}, {1600, 100, -1}, {9999, 100, -1}};
        for (int[] row : due) {
            Pointsbook land = eater(row[0]);
            land.month();
            dueHealth("34: eaten " + row[0], land, row[1], row[2]);
        }
        Pointsbook land = eater(0);
        land.month();
        land.buy(0, 0, 0, 1600);
        land.month();
        dueHealth("34: 3 more", land, 83, Pointsbook.NONE);
        for (int i = 0; i < 6; i++) {
            land.buy(0, 0, 0, 1600);
            land.month();
        }
        dueHealth("34: 100 at most", land, 100, Pointsbook.NONE);
    }

    private static void needsByKind() {
        int[] needs = {800, 1600, 2400, 2000};
        for (int kind = 0; kind < 4; kind++) {
            Pointsbook little = eater(needs[kind] / 2 - 1);
            little.becomes(0, kind);
            little.month();
            dueHealth("34: below a half, kind " + kind, little, 80, Pointsbook.UNSPENT);
            Pointsbook half = eater(needs[kind] - 1);
            half.becomes(0, kind);
            half.month();
            dueHealth("34: below the need, kind " + kind, half, 95, Pointsbook.UNSPENT);
            Pointsbook enough = eater(needs[kind]);
            enough.becomes(0, kind);
            enough.month();
            dueHealth("34: the need, kind " + kind, enough, 100, Pointsbook.NONE);
        }
    }

    private static void death() {
        Pointsbook land = eater(0);
        for (int i = 0; i < 4; i++) {
            land.month();
        }
        dueHealth("34: four months", land, 20, Pointsbook.UNSPENT);
        Check.due("34: alive", land.personIs(0, 6), 0);
        land.ration(1, 10);
        land.shop(0);
        land.moves(0, 1);
        land.month();
        dueHealth("34: dead, named as it was ahead", land, 0, Pointsbook.LACKED);
        Check.due("34: dead", land.personIs(0, 6), 1);
        Check.due("34: none alive", land.sum(7), 0);
        Check.due("34: who has moved", land.personIs(0, 1), 1);
        land.ration(1, 0);
        land.month();
        dueHealth("34: a dead one keeps the name", land, 0, Pointsbook.LACKED);
        barelyAlive();
        Pointsbook weak = eater(800);
        weak.month();
        for (int i = 0; i < 4; i++) {
            weak.month();
        }
        dueHealth("34: 15 are alive", weak, 15, Pointsbook.UNSPENT);
        weak.month();
        dueHealth("34: below 0 is 0", weak, 0, Pointsbook.UNSPENT);
    }

    /** 100, three times 20 less, seven times 3 more, three times 20 less: 1, which is alive. */
    private static void barelyAlive() {
        Pointsbook land = eater(0);
        for (int i = 0; i < 3; i++) {
            land.month();
        }
        for (int i = 0; i < 7; i++) {
            land.buy(0, 0, 0, 1600);
            land.month();
        }
        dueHealth("34: 40 and 7 times 3", land, 61, Pointsbook.NONE);
        for (int i = 0; i < 3; i++) {
            land.month();
        }
        dueHealth("34: 1 is alive", land, 1, Pointsbook.UNSPENT);
        Check.due("34: not dead with 1", land.personIs(0, 6), 0);
        Check.due("34: counted as alive with 1", land.sum(7), 1);
        Check.due("34: points with 1", land.personIs(0, 4), 20);
        land.ration(1, 40);
        Check.due("34: grams with 1", land.left(0, 1), 40);
        Check.due("34: grams with 1, anew", land.leftAnew(0, 1), 40);
        Check.due("34: gets with 1", land.give(land.person(Pointsbook.CHILD, 0), 0, 3), 23);
        Check.due("34: a book with 1", land.stealBook(0), 23);
        land.buy(0, 0, 0, 1600);
        land.month();
        dueHealth("34: and can go up", land, 4, Pointsbook.NONE);
    }

    private static void names() {
        Pointsbook land = eater(0);
        land.ration(1, 50);
        land.ship(0, 1, 50);
        land.advance(0, 1, 49);
        land.stealBook(0);
        land.month();
        dueHealth("34: stolen first", land, 80, Pointsbook.STOLEN);
        land.month();
        dueHealth("34: a gram is lacked", land, 60, Pointsbook.LACKED);
        land.advance(0, 1, 1);
        land.month();
        dueHealth("34: as many as are left", land, 40, Pointsbook.UNSPENT);
        land.steal(0, 1, 20);
        land.buy(0, 0, 1, 20);
        land.month();
        dueHealth("34: what was bought is not lacked, the rest is", land, 20, Pointsbook.LACKED);
        Pointsbook fed = eater(1600);
        fed.ration(1, 50);
        fed.stealBook(0);
        fed.month();
        dueHealth("34: no fall, no name", fed, 100, Pointsbook.NONE);
        Pointsbook points = eater(0);
        points.onPoints(1, 1);
        points.month();
        dueHealth("34: points are not lacked", points, 80, Pointsbook.UNSPENT);
    }

    /** The shop of the month that ends, not the one that they move to. */
    private static void lackedAtOldShop() {
        Pointsbook land = eater(0);
        land.shop(0);
        land.ration(1, 50);
        land.ship(0, 1, 50);
        land.advance(0, 1, 50);
        land.moves(0, 1);
        land.month();
        dueHealth("34: moved after the names", land, 80, Pointsbook.UNSPENT);
        land.month();
        dueHealth("34: at the new shop", land, 60, Pointsbook.LACKED);
    }

    /** Sells so many of 1000 grams of a good on points, and gives the price of the next month. */
    private static int newPrice(int price, int jump, int sold, int lies) {
        Pointsbook land = Lands.bare();
        land.points(99, jump);
        land.onPoints(0, 1);
        land.person(Pointsbook.ADULT, 0);
        if (sold + lies > 0) {
            land.ship(0, 0, sold + lies);
            land.advance(0, 0, sold + lies);
        }
        if (sold > 0) {
            land.buy(0, 0, 0, sold);
        }
        land.onPoints(0, price);
        land.month();
        Check.due("34: the sold of the new month", land.goodIs(0, 3), 0);
        return land.goodIs(0, 1);
    }

    private static void prices() {
        Check.due("34: 0 tenths", newPrice(10, 9, 0, 1), 7);
        Check.due("34: 1 tenth", newPrice(10, 9, 100, 900), 8);
        Check.due("34: 2 tenths", newPrice(10, 9, 200, 800), 9);
        Check.due("34: almost 3 tenths", newPrice(10, 9, 200, 467), 9);
        Check.due("34: 3 tenths", newPrice(10, 9, 300, 700), 10);
        Check.due("34: 7 tenths", newPrice(10, 9, 700, 300), 10);
        Check.due("34: almost 8 tenths", newPrice(10, 9, 700, 176), 10);
        Check.due("34: 8 tenths", newPrice(10, 9, 800, 200), 11);
        Check.due("34: 9 tenths", newPrice(10, 9, 900, 100), 12);
        Check.due("34: 10 tenths", newPrice(10, 9, 900, 0), 13);
        Check.due("34: the jump upwards", newPrice(10, 2, 900, 0), 12);
        Check.due("34: the jump downwards", newPrice(10, 1, 0, 5), 9);
        Check.due("34: no jump upwards", newPrice(10, 0, 900, 0), 10);
        Check.due("34: no jump downwards", newPrice(10, 0, 0, 5), 10);
        Check.due("34: nothing sold, nothing lies", newPrice(10, 9, 0, 0), 10);
        Check.due("34: 1 at least", newPrice(2, 9, 0, 5), 1);
        Check.due("34: 24 at most", newPrice(23, 9, 900, 0), 24);
    }

    private static void pricesOfOtherStates() {
        Pointsbook land = Lands.land();
        land.month();
        Check.due("34: a ration is no price", land.goodIs(0, 1), 400);
        Check.due("34: the price of all shops", land.goodIs(1, 1), 1);
        Check.due("34: free has none", land.goodIs(2, 1), 0);
        land.buy(2, 1, 0, 300);
        land.steal(0, 0, 900);
        land.onPoints(0, 5);
        land.month();
        Check.due("34: sold as rationed, in another shop", land.goodIs(0, 1), 5);
        land.steal(0, 0, 100);
        land.advance(0, 0, 100);
        land.buy(0, 0, 0, 100);
        land.black(1, 0, 500);
        land.month();
        Check.due("34: black sales and depots do not count", land.goodIs(0, 1), 7);
    }

    private static void promise35() {
        Pointsbook land = new Pointsbook();
        Check.due("35: no good on points", land.diet(1), Pointsbook.NONE);
        land.onPoints(0, 24);
        Check.due("35: without energy", land.diet(3000), Pointsbook.NONE);
        land.energy(1, 900);
        Check.due("35: rationed energy", land.diet(1), Pointsbook.NONE);
        land.free(1);
        Check.due("35: free energy", land.diet(1), Pointsbook.NONE);
        land.energy(0, 1);
        Check.due("35: the most points", land.diet(3000), 72000);
        Check.due("35: after the most", land.diet(1), 24);
        land.onPoints(2, 5);
        land.energy(2, 300);
        land.onPoints(3, 7);
        land.energy(3, 450);
        Check.due("35: one", land.diet(300), 5);
        Check.due("35: the other", land.diet(301), 7);
        Check.due("35: a bit more", land.diet(451), 10);
        Check.due("35: both", land.diet(601), 12);
        Check.due("35: one more", land.diet(751), 14);
        Check.due("35: the most", land.diet(3000), 47);
        Check.due("35: again", land.diet(301), 7);
        land.free(3);
        Check.due("35: no longer on points", land.diet(301), 10);
        Lands.refused("35: diet(0)", Check.ARGUMENT, x -> x.diet(0));
        Lands.refused("35: diet(-1)", Check.ARGUMENT, x -> x.diet(-1));
        Lands.refused("35: diet(3001)", Check.ARGUMENT, x -> x.diet(3001));
    }

    private static void promise36() {
        Pointsbook land = Lands.land();
        land.buy(0, 0, 0, 100);
        land.steal(0, 1, 300);
        land.black(1, 1, 200);
        land.lose(0, 2, 400);
        land.deliver(0, 900);
        int[] due = {0, 12000, 3800 + 2000 + 2100 + 900, 1000 - 100 + 300 + 700 + 500, 300, 400, 100, 3, 100};
        for (int what = 0; what < due.length; what++) {
            Check.due("36: sum(" + what + ")", land.sum(what), due[what]);
        }
        land.month();
        due[0] = 1;
        for (int what = 0; what < due.length; what++) {
            Check.due("36: next month sum(" + what + ")", land.sum(what), due[what]);
        }
        Check.due("36: alive", Lands.withDead().sum(7), 2);
        Lands.refused("36: sum(-1)", Check.ARGUMENT, x -> x.sum(-1));
        Lands.refused("36: sum(9)", Check.ARGUMENT, x -> x.sum(9));
    }

    public static void main(String[] args) {
        promise31();
        promise32();
        promise33();
        promise34();
        lastMonth();
        healthByEnergy();
        needsByKind();
        death();
        names();
        lackedAtOldShop();
        prices();
        pricesOfOtherStates();
        promise35();
        promise36();
        Check.end();
    }
}
