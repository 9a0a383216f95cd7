/** Promises 1 to 7: the new object, ration, onPoints, free, energy, points, goodIs. */
public final class GoodsTest {
    private static void promise1() {
        Pointsbook land = new Pointsbook();
        for (int what = 0; what < 9; what++) {
            Check.due("1: sum(" + what + ")", land.sum(what), 0);
        }
        for (int good = 0; good < 6; good++) {
            for (int what = 0; what < 6; what++) {
                Check.due("1: goodIs(" + good + ", " + what + ")", land.goodIs(good, what), 0);
            }
        }
        Check.dueThrow("1: personIs(0, 0)", Check.INDEX, () -> land.personIs(0, 0));
        Check.dueThrow("1: depotHas(0, 0)", Check.INDEX, () -> land.depotHas(0, 0));
        Check.dueThrow("1: shopIs(0, 0, 0)", Check.INDEX, () -> land.shopIs(0, 0, 0));
        Check.dueThrow("1: failed(0)", Check.INDEX, () -> land.failed(0));
        Check.due("1: points at first", land.points(20, 2), 20);
    }

    private static void promise2() {
        Pointsbook land = Lands.bare();
        land.person(Pointsbook.ADULT, 0);
        Check.due("2: ration(5, 9999)", land.ration(5, 9999), Pointsbook.RATIONED);
        Check.due("2: left", land.left(0, 5), 9999);
        Check.due("2: ration(5, 0)", land.ration(5, 0), Pointsbook.RATIONED);
        Check.due("2: left of none", land.left(0, 5), 0);
        land.onPoints(0, 7);
        Check.due("2: ration after onPoints", land.ration(0, 10), Pointsbook.POINTS);
        land.free(0);
        Check.due("2: ration after free", land.ration(0, 11), Pointsbook.FREE);
        Check.due("2: goodIs 0", land.goodIs(0, 0), Pointsbook.RATIONED);
        Check.due("2: goodIs 1", land.goodIs(0, 1), 11);
        Lands.refused("2: ration(-1, 10000)", Check.INDEX, x -> x.ration(-1, 10000));
        Lands.refused("2: ration(6, 1)", Check.INDEX, x -> x.ration(6, 1));
        Lands.refused("2: ration(1, -1)", Check.ARGUMENT, x -> x.ration(1, -1));
        Lands.refused("2: ration(1, 10000)", Check.ARGUMENT, x -> x.ration(1, 10000));
    }

    private static void promise3() {
        Pointsbook land = new Pointsbook();
        Check.due("3: onPoints(0, 1)", land.onPoints(0, 1), Pointsbook.RATIONED);
        Check.due("3: onPoints(0, 24)", land.onPoints(0, 24), Pointsbook.POINTS);
        Check.due("3: goodIs 0", land.goodIs(0, 0), Pointsbook.POINTS);
        Check.due("3: goodIs 1", land.goodIs(0, 1), 24);
        land.free(0);
        Check.due("3: onPoints after free", land.onPoints(0, 2), Pointsbook.FREE);
        Check.due("3: goodIs 1 then", land.goodIs(0, 1), 2);
        Lands.refused("3: onPoints(6, 0)", Check.INDEX, x -> x.onPoints(6, 0));
        Lands.refused("3: onPoints(-1, 1)", Check.INDEX, x -> x.onPoints(-1, 1));
        Lands.refused("3: onPoints(0, 0)", Check.ARGUMENT, x -> x.onPoints(0, 0));
        Lands.refused("3: onPoints(0, 25)", Check.ARGUMENT, x -> x.onPoints(0, 25));
    }

    private static void promise4() {
        Pointsbook land = new Pointsbook();
        land.ration(3, 50);
        Check.due("4: free", land.free(3), Pointsbook.RATIONED);
        Check.due("4: goodIs 0", land.goodIs(3, 0), Pointsbook.FREE);
        Check.due("4: goodIs 1", land.goodIs(3, 1), 0);
        Check.due("4: free again", land.free(3), Pointsbook.FREE);
        land.onPoints(3, 9);
        Check.due("4: free after onPoints", land.free(3), Pointsbook.POINTS);
        Lands.refused("4: free(-1)", Check.INDEX, x -> x.free(-1));
        Lands.refused("4: free(6)", Check.INDEX, x -> x.free(6));
    }

    private static void promise5() {
        Pointsbook land = new Pointsbook();
        Check.due("5: energy(0, 900)", land.energy(0, 900), 0);
        Check.due("5: energy(0, 0)", land.energy(0, 0), 900);
        Check.due("5: energy(5, 1)", land.energy(5, 1), 0);
        Check.due("5: goodIs 2", land.goodIs(5, 2), 1);
        Lands.refused("5: energy(6, 901)", Check.INDEX, x -> x.energy(6, 901));
        Lands.refused("5: energy(-1, 0)", Check.INDEX, x -> x.energy(-1, 0));
        Lands.refused("5: energy(0, -1)", Check.ARGUMENT, x -> x.energy(0, -1));
        Lands.refused("5: energy(0, 901)", Check.ARGUMENT, x -> x.energy(0, 901));
    }

    private static void promise6() {
        Pointsbook land = Lands.bare();
        land.person(Pointsbook.CHILD, 0);
        Check.due("6: points at first", land.personIs(0, 4), 20);
        Check.due("6: points(99, 9)", land.points(99, 9), 20);
        Check.due("6: the points of an open book", land.personIs(0, 4), 99);
        Check.due("6: points(0, 0)", land.points(0, 0), 99);
        Check.due("6: no points", land.personIs(0, 4), 0);
        Check.due("6: points(1, 1)", land.points(1, 1), 0);
        Lands.refused("6: points(-1, 0)", Check.ARGUMENT, x -> x.points(-1, 0));
        Lands.refused("6: points(100, 0)", Check.ARGUMENT, x -> x.points(100, 0));
        Lands.refused("6: points(0, -1)", Check.ARGUMENT, x -> x.points(0, -1));
        Lands.refused("6: points(0, 10)", Check.ARGUMENT, x -> x.points(0, 10));
    }

    /** A refused call leaves the jump, which only the next prices show. */
    private static void jumpIsLeft() {
        Pointsbook land = Lands.land();
        land.onPoints(1, 20);
        Check.dueThrow("6: points(100, 9)", Check.ARGUMENT, () -> land.points(100, 9));
        land.month();
        Check.due("6: the price falls by the jump", land.goodIs(1, 1), 18);
        land.points(20, 0);
        land.month();
        Check.due("6: no jump, no other price", land.goodIs(1, 1), 18);
    }

    private static void promise7() {
        Pointsbook land = Lands.land();
        land.buy(0, 0, 0, 150);
        land.buy(2, 1, 0, 50);
        land.buy(0, 0, 1, 200);
        land.buy(0, 0, 2, 33);
        land.steal(0, 2, 40);
        int[][] due = {{0, 400, 300, 200, 1100, 0}, {1, 3, 200, 200, 800, 0}, {2, 0, 100, 33, 427, 40}};
        for (int good = 0; good < due.length; good++) {
            for (int what = 0; what < 6; what++) {
                Check.due("7: goodIs(" + good + ", " + what + ")", land.goodIs(good, what), due[good][what]);
            }
        }
        land.free(0);
        Check.due("7: sold as rationed, now free", land.goodIs(0, 3), 200);
        land.month();
        Check.due("7: sold in the new month", land.goodIs(0, 3), 0);
        Check.due("7: lies in the new month", land.goodIs(0, 4), 1100);
        Check.due("7: black in the new month", land.goodIs(2, 5), 40);
        Lands.refused("7: goodIs(6, 6)", Check.INDEX, x -> x.goodIs(6, 6));
        Lands.refused("7: goodIs(-1, 0)", Check.INDEX, x -> x.goodIs(-1, 0));
        Lands.refused("7: goodIs(0, 6)", Check.ARGUMENT, x -> x.goodIs(0, 6));
        Lands.refused("7: goodIs(0, -1)", Check.ARGUMENT, x -> x.goodIs(0, -1));
    }

    public static void main(String[] args) {
        promise1();
        promise2();
        promise3();
        promise4();
        promise5();
        promise6();
        jumpIsLeft();
        promise7();
        Check.end();
    }
}
