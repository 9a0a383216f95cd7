/** Promises 8 to 15: person, becomes, moves, give, stealBook, personIs, left, leftAnew. */
public final class PeopleTest {
    private static void promise8() {
        Pointsbook land = Lands.bare();
        for (int i = 0; i < 20; i++) {
            Check.due("8: person", land.person(i % 4, 0), i);
        }
        Check.due("8: alive", land.sum(7), 20);
        Check.dueThrow("8: person(0, 0) of 21", Check.STATE, () -> land.person(0, 0));
        Check.dueThrow("8: person(4, 0) of 21", Check.ARGUMENT, () -> land.person(4, 0));
        Check.dueThrow("8: person(4, 1) of 21", Check.INDEX, () -> land.person(4, 1));
        Check.due("8: still 20", land.sum(7), 20);
        Check.due("8: the last one", land.personIs(19, 0), Pointsbook.MOTHER);
        Lands.refused("8: person(9, 2)", Check.INDEX, x -> x.person(9, 2));
        Lands.refused("8: person(0, -1)", Check.INDEX, x -> x.person(0, -1));
        Lands.refused("8: person(-1, 0)", Check.ARGUMENT, x -> x.person(-1, 0));
        Lands.refused("8: person(4, 0)", Check.ARGUMENT, x -> x.person(4, 0));
    }

    private static void promise9() {
        Pointsbook land = Lands.land();
        land.buy(0, 0, 0, 250);
        Check.due("9: becomes", land.becomes(0, Pointsbook.CHILD), Pointsbook.ADULT);
        Check.due("9: less than was bought", land.left(0, 0), 0);
        Check.due("9: becomes", land.becomes(0, Pointsbook.MOTHER), Pointsbook.CHILD);
        Check.due("9: left of a mother", land.left(0, 0), 250);
        Check.due("9: becomes the same", land.becomes(0, Pointsbook.MOTHER), Pointsbook.MOTHER);
        Lands.refused("9: becomes(3, 4)", Check.INDEX, x -> x.becomes(3, 4));
        Lands.refused("9: becomes(-1, 0)", Check.INDEX, x -> x.becomes(-1, 0));
        Lands.refused("9: becomes(0, 4)", Check.ARGUMENT, x -> x.becomes(0, 4));
        Lands.refused("9: becomes(0, -1)", Check.ARGUMENT, x -> x.becomes(0, -1));
        Lands.refused("9: becomes(dead, 4)", Check.ARGUMENT, Lands::withDead, x -> x.becomes(0, 4));
        Lands.refused("9: becomes(dead, 0)", Check.STATE, Lands::withDead, x -> x.becomes(0, 0));
    }

    /** The need is of the kind at the end of the month: the same food, another health. */
    private static void needOfKind() {
        Pointsbook land = Lands.land();
        land.buy(0, 0, 0, 267);
        Check.due("9: eaten", land.personIs(0, 5), 801);
        land.becomes(0, Pointsbook.CHILD);
        land.month();
        Check.due("9: enough for a child", land.personIs(0, 2), 100);
    }

    private static void promise10() {
        Pointsbook land = Lands.land();
        Check.due("10: moves", land.moves(0, 1), 0);
        Check.due("10: not yet", land.personIs(0, 1), 0);
        land.buy(0, 0, 0, 10);
        Check.dueThrow("10: buy at the next shop", Check.STATE, () -> land.buy(0, 1, 0, 10));
        Check.due("10: moves back", land.moves(0, 0), 0);
        Check.due("10: moves again", land.moves(0, 1), 0);
        land.moves(2, 0);
        land.moves(2, 1);
        land.month();
        Check.due("10: now", land.personIs(0, 1), 1);
        Check.due("10: in place of where they would move", land.personIs(2, 1), 1);
        Check.due("10: who has not moved", land.personIs(1, 1), 0);
        land.buy(0, 1, 0, 10);
        Check.dueThrow("10: buy at the old shop", Check.STATE, () -> land.buy(0, 0, 0, 10));
        Check.due("10: moves from the new one", land.moves(0, 0), 1);
        Lands.refused("10: moves(3, 0)", Check.INDEX, x -> x.moves(3, 0));
        Lands.refused("10: moves(-1, 0)", Check.INDEX, x -> x.moves(-1, 0));
        Lands.refused("10: moves(0, 2)", Check.INDEX, x -> x.moves(0, 2));
        Lands.refused("10: moves(0, -1)", Check.INDEX, x -> x.moves(0, -1));
        Lands.refused("10: moves(dead, 2)", Check.INDEX, Lands::withDead, x -> x.moves(0, 2));
        Lands.refused("10: moves(dead, 1)", Check.STATE, Lands::withDead, x -> x.moves(0, 1));
        Pointsbook kept = Lands.land();
        Check.dueThrow("10: moves(0, 2)", Check.INDEX, () -> kept.moves(0, 2));
        kept.month();
        Check.due("10: a refused move moves nobody", kept.personIs(0, 1), 0);
    }

    private static void promise11() {
        Pointsbook land = Lands.land();
        Check.due("11: give all", land.give(0, 1, 20), 40);
        Check.due("11: the giver", land.personIs(0, 4), 0);
        Check.dueThrow("11: give more", Check.STATE, () -> land.give(0, 1, 1));
        Check.due("11: give back a part", land.give(1, 0, 15), 15);
        Check.due("11: the other", land.personIs(1, 4), 25);
        land.points(0, 2);
        Check.due("11: less points told, giver", land.personIs(0, 4), 0);
        Check.due("11: less points told, other", land.personIs(1, 4), 5);
        Check.due("11: what was got can be given", land.give(1, 2, 5), 5);
        land.month();
        land.points(20, 2);
        Check.due("11: gone with the month", land.personIs(2, 4), 20);
        Check.due("11: given in the old month", land.personIs(1, 4), 20);
        Lands.refused("11: give(3, 0, 0)", Check.INDEX, x -> x.give(3, 0, 0));
        Lands.refused("11: give(0, 3, 0)", Check.INDEX, x -> x.give(0, 3, 0));
        Lands.refused("11: give(-1, -1, 0)", Check.INDEX, x -> x.give(-1, -1, 0));
        Lands.refused("11: give(3, 3, 0)", Check.INDEX, x -> x.give(3, 3, 0));
        Lands.refused("11: give(0, 0, 1)", Check.ARGUMENT, x -> x.give(0, 0, 1));
        Lands.refused("11: give(0, 1, 0)", Check.ARGUMENT, x -> x.give(0, 1, 0));
        Lands.refused("11: give(0, 1, 100)", Check.ARGUMENT, x -> x.give(0, 1, 100));
        Lands.refused("11: give(0, 1, 21)", Check.STATE, x -> x.give(0, 1, 21));
        Lands.refused("11: give(dead, dead, 1)", Check.ARGUMENT, Lands::withDead, x -> x.give(0, 0, 1));
        Lands.refused("11: give(dead, 1, 100)", Check.ARGUMENT, Lands::withDead, x -> x.give(0, 1, 100));
        Lands.refused("11: give(dead, 1, 1)", Check.STATE, Lands::withDead, x -> x.give(0, 1, 1));
        Lands.refused("11: give(1, dead, 1)", Check.STATE, Lands::withDead, x -> x.give(1, 0, 1));
        Lands.refused("11: give(stolen, 1, 1)", Check.STATE, PeopleTest::robbed, x -> x.give(0, 1, 1));
        Lands.refused("11: give(1, stolen, 1)", Check.STATE, PeopleTest::robbed, x -> x.give(1, 0, 1));
    }

    /** The book of person 0 is stolen. */
    private static Pointsbook robbed() {
        Pointsbook land = Lands.land();
        land.stealBook(0);
        return land;
    }

    private static void promise12() {
        Pointsbook land = Lands.land();
        land.give(1, 0, 4);
        land.buy(0, 0, 1, 100);
        Check.due("12: stealBook", land.stealBook(0), 21);
        Check.due("12: points", land.personIs(0, 4), 0);
        Check.due("12: grams", land.left(0, 0), 0);
        Check.due("12: grams anew", land.leftAnew(0, 0), 0);
        Check.dueThrow("12: buy rationed", Check.STATE, () -> land.buy(0, 0, 0, 1));
        Check.dueThrow("12: buy on points", Check.STATE, () -> land.buy(0, 0, 1, 100));
        Check.due("12: buy free", land.buy(0, 0, 2, 5), Pointsbook.NONE);
        Lands.refused("12: stealBook again", Check.STATE, PeopleTest::robbed, x -> x.stealBook(0));
        Pointsbook later = Lands.land();
        later.stealBook(0);
        later.month();
        Check.due("12: a new book", later.personIs(0, 4), 20);
        Check.due("12: stolen in the new month", later.stealBook(0), 20);
        Lands.refused("12: stealBook(3)", Check.INDEX, x -> x.stealBook(3));
        Lands.refused("12: stealBook(-1)", Check.INDEX, x -> x.stealBook(-1));
        Lands.refused("12: stealBook(dead)", Check.STATE, Lands::withDead, x -> x.stealBook(0));
    }

    private static void promise13() {
        Pointsbook land = Lands.land();
        dueOne("13: at first", land, 2, new int[] {Pointsbook.HEAVY, 1, 100, Pointsbook.NONE, 20, 0, 0});
        land.buy(2, 0, 1, 300);
        land.buy(2, 1, 0, 99);
        dueOne("13: by now", land, 2, new int[] {Pointsbook.HEAVY, 1, 100, Pointsbook.NONE, 11, 897, 0});
        land.month();
        dueOne("13: next month", land, 2, new int[] {Pointsbook.HEAVY, 1, 80, Pointsbook.LACKED, 20, 0, 0});
        Pointsbook dead = Lands.withDead();
        dueOne("13: dead", dead, 0, new int[] {Pointsbook.ADULT, 0, 0, Pointsbook.UNSPENT, 0, 0, 1});
        dead.month();
        dueOne("13: long dead", dead, 0, new int[] {Pointsbook.ADULT, 0, 0, Pointsbook.UNSPENT, 0, 0, 1});
        Lands.refused("13: personIs(3, 7)", Check.INDEX, x -> x.personIs(3, 7));
        Lands.refused("13: personIs(-1, 0)", Check.INDEX, x -> x.personIs(-1, 0));
        Lands.refused("13: personIs(0, 7)", Check.ARGUMENT, x -> x.personIs(0, 7));
        Lands.refused("13: personIs(0, -1)", Check.ARGUMENT, x -> x.personIs(0, -1));
    }

    private static void dueOne(String text, Pointsbook land, int person, int[] due) {
        for (int what = 0; what < due.length; what++) {
            Check.due(text + " personIs(" + person + ", " + what + ")", land.personIs(person, what), due[what]);
        }
    }

    /** Each time for itself by 100, rounded down, with the energy that the good had then. */
    private static void energyEaten() {
        Pointsbook land = Lands.land();
        land.energy(0, 99);
        land.buy(0, 0, 0, 101);
        land.buy(0, 0, 0, 1);
        land.buy(0, 0, 0, 1);
        Check.due("13: 99 and 0 and 0", land.personIs(0, 5), 99);
        land.energy(0, 900);
        land.buy(0, 0, 0, 1);
        land.energy(0, 0);
        Check.due("13: and 9", land.personIs(0, 5), 108);
    }

    private static void dueLeft(String text, Pointsbook land, int person, int good, int want) {
        Check.due(text + " left", land.left(person, good), want);
        Check.due(text + " leftAnew", land.leftAnew(person, good), want);
    }

    private static void promises14And15() {
        Pointsbook land = Lands.land();
        land.person(Pointsbook.MOTHER, 0);
        land.ration(3, 33);
        int[] kinds = {33, 16, 49, 41};
        for (int person = 0; person < 4; person++) {
            dueLeft("14, 15: by kind", land, person, 3, kinds[person]);
        }
        land.ration(3, 9999);
        dueLeft("14, 15: the most", land, 2, 3, 14998);
        dueLeft("14, 15: on points", land, 0, 1, 0);
        dueLeft("14, 15: free", land, 0, 2, 0);
        land.buy(0, 0, 0, 100);
        land.buy(1, 0, 0, 7);
        land.buy(0, 0, 0, 50);
        dueLeft("14, 15: bought twice", land, 0, 0, 250);
        dueLeft("14, 15: of another one", land, 1, 0, 193);
        land.ration(0, 100);
        dueLeft("14, 15: ration below what was bought", land, 0, 0, 0);
        land.free(0);
        land.buy(0, 0, 0, 60);
        land.onPoints(0, 1);
        land.buy(0, 0, 0, 100);
        land.ration(0, 400);
        dueLeft("14, 15: only as it was rationed", land, 0, 0, 250);
        land.month();
        dueLeft("14, 15: a new book", land, 0, 0, 400);
        land.stealBook(1);
        dueLeft("14, 15: stolen", land, 1, 0, 0);
        dueLeft("14, 15: dead", Lands.withDead(), 0, 0, 0);
        Lands.refused("14: left(3, 0)", Check.INDEX, x -> x.left(3, 0));
        Lands.refused("14: left(-1, 0)", Check.INDEX, x -> x.left(-1, 0));
        Lands.refused("14: left(0, 6)", Check.INDEX, x -> x.left(0, 6));
        Lands.refused("14: left(0, -1)", Check.INDEX, x -> x.left(0, -1));
        Lands.refused("15: leftAnew(3, 0)", Check.INDEX, x -> x.leftAnew(3, 0));
        Lands.refused("15: leftAnew(-1, 0)", Check.INDEX, x -> x.leftAnew(-1, 0));
        Lands.refused("15: leftAnew(0, 6)", Check.INDEX, x -> x.leftAnew(0, 6));
        Lands.refused("15: leftAnew(0, -1)", Check.INDEX, x -> x.leftAnew(0, -1));
    }

    /** Other goods and other months are other sales. */
    private static void salesOfOthers() {
        Pointsbook land = Lands.land();
        land.ration(3, 100);
        land.deliver(0, 500);
        land.advance(0, 3, 200);
        land.buy(0, 0, 0, 30);
        land.buy(0, 0, 3, 40);
        dueLeft("15: one good", land, 0, 0, 370);
        dueLeft("15: another good", land, 0, 3, 60);
        land.month();
        land.buy(0, 0, 3, 1);
        land.buy(1, 0, 0, 2);
        dueLeft("15: nothing of it in this month", land, 0, 0, 400);
        dueLeft("15: of this month alone", land, 0, 3, 99);
        dueLeft("15: of another one in this month", land, 1, 0, 198);
    }

    /** As many sales as an object has calls for. */
    private static void manySales() {
        Pointsbook land = Lands.bare();
        land.ration(0, 9999);
        land.person(Pointsbook.ADULT, 0);
        land.ship(0, 0, 9999);
        land.advance(0, 0, 9999);
        for (int i = 0; i < 500; i++) {
            land.buy(0, 0, 0, 3);
        }
        dueLeft("15: 500 sales", land, 0, 0, 8499);
    }

    public static void main(String[] args) {
        promise8();
        promise9();
        needOfKind();
        promise10();
        promise11();
        promise12();
        promise13();
        energyEaten();
        promises14And15();
        salesOfOthers();
        manySales();
        Check.end();
    }
}
