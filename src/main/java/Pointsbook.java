/**
 * A land on rations: its people and their books, goods, shops, depots, farms and black market.
 * The document (DOC.md) numbers what each call promises; words in capitals here are its terms.
 */
public final class Pointsbook {
    public static final int NONE = -1;
    public static final int CHILD = 0, ADULT = 1, HEAVY = 2, MOTHER = 3;
    public static final int RATIONED = 0, POINTS = 1, FREE = 2;
    public static final int STOLEN = 0, LACKED = 1, UNSPENT = 2;

    private static final int GOODS = 6;
    private static final int MOST_PEOPLE = 20;
    private static final int MOST_DEPOTS = 6;
    private static final int MOST_SHOPS = 6;
    private static final int MOST_FARMS = 6;
    private static final int LAST_MONTH = 240;
    /** An object is used for at most so many calls, so there are no more sales to keep. */
    private static final int MOST_SALES = 512;
    private static final int LITTLE_GRAMS = 9999;
    private static final int MANY_GRAMS = 99999;
    private static final int LOWEST_PRICE = 1;
    private static final int HIGHEST_PRICE = 24;
    private static final int MOST_ENERGY = 900;
    private static final int MOST_DIET = 3000;
    private static final int MOST_POINTS = 99;
    private static final int MOST_JUMP = 9;
    private static final int FULL_HEALTH = 100;
    private static final int[] QUARTERS = {2, 4, 6, 5};

    private final Good[] goods = new Good[GOODS];
    private final Person[] people = new Person[MOST_PEOPLE];
    private final Depot[] depots = new Depot[MOST_DEPOTS];
    private final Shop[] shops = new Shop[MOST_SHOPS];
    private final Farm[] farms = new Farm[MOST_FARMS];
    private final Sales sales = new Sales();
    /** Kept and used again by every diet, since the room for all calls of a run is small. */
    private final int[] leastPoints = new int[MOST_DIET + 1];
    private int peopleCount = 0;
    private int depotCount = 0;
    private int shopCount = 0;
    private int farmCount = 0;
    private int pointsTold = 20;
    private int jumpTold = 2;
    private int monthNow = 0;
    private int visits = 0;
    private int gramsCame = 0;
    private int gramsEaten = 0;
    private int gramsLost = 0;
    private int centsPaid = 0;

    private static final class Good {
        int state = RATIONED;
        /** The RATION, or the price on POINTS, or 0 of a FREE one. */
        int amount = 0;
        int energyNow = 0;
        int sold = 0;
        int onBlackMarket = 0;
    }

    private static final class Person {
        final int number;
        int kind;
        Shop registered;
        Shop next;
        int health = FULL_HEALTH;
        int name = NONE;
        boolean bookStolen = false;
        int pointsGot = 0;
        int pointsGone = 0;
        int energyEaten = 0;
        final int[] bought = new int[GOODS];

        Person(int number, int kind, Shop registered) {
            this.number = number;
            this.kind = kind;
            this.registered = registered;
            this.next = registered;
        }

        boolean isDead() {
            return health <= 0;
        }

        /** A stolen book and a dead holder are alike: nothing is LEFT by either. */
        boolean isWithoutBook() {
            return bookStolen || health <= 0;
        }

        int quarters() {
            return kind < 0 || kind >= QUARTERS.length ? 0 : QUARTERS[kind];
        }

        void openNewBook() {
            registered = next;
            bookStolen = false;
            pointsGot = 0;
            pointsGone = 0;
            energyEaten = 0;
            for (int good = 0; good < bought.length; good++) {
                bought[good] = 0;
            }
        }
    }

    private static final class Depot {
        final int number;
        /** Null of the first one alone; made earlier than this one, so that the chain upwards ends. */
        final Depot above;
        final int[] grams = new int[GOODS];

        Depot(int number, Depot above) {
            this.number = number;
            this.above = above;
        }
    }

    private static final class Shop {
        final int number;
        final Depot source;
        final Shelf[] shelves = new Shelf[GOODS];

        Shop(int number, Depot source) {
            this.number = number;
            this.source = source;
            for (int good = 0; good < shelves.length; good++) {
                shelves[good] = new Shelf();
            }
        }
    }

    /** What a SHOP keeps of one GOOD. */
    private static final class Shelf {
        int grams = 0;
        int coupons = 0;
        int owed = 0;
        int supplied = 0;
        int sold = 0;
        int forgedCoupons = 0;
    }

    private static final class Farm {
        final Depot target;
        final int good;
        final int quota;
        int delivered = 0;
        int failures = 0;

        Farm(Depot target, int good, int quota) {
            this.target = target;
            this.good = good;
            this.quota = quota;
        }
    }

    /** Each sale of a RATIONED GOOD, so that what is LEFT can be found a second way. */
    private static final class Sales {
        private final int[] months = new int[MOST_SALES];
        private final int[] buyers = new int[MOST_SALES];
        private final int[] goodsSold = new int[MOST_SALES];
        private final int[] grams = new int[MOST_SALES];
        private int count = 0;

        void note(int inMonth, int buyer, int good, int gramsBought) {
            if (count >= MOST_SALES) {
                return;
            }
            months[count] = inMonth;
            buyers[count] = buyer;
            goodsSold[count] = good;
            grams[count] = gramsBought;
            count++;
        }

        int boughtIn(int inMonth, int buyer, int good) {
            int all = 0;
            for (int i = 0; i < count; i++) {
                if (months[i] == inMonth && buyers[i] == buyer && goodsSold[i] == good) {
                    all += grams[i];
                }
            }
            return all;
        }
    }

    public Pointsbook() {
        for (int good = 0; good < goods.length; good++) {
            goods[good] = new Good();
        }
    }

    // ---- goods

    public int ration(int good, int grams) throws IndexOutOfBoundsException, IllegalArgumentException {
        Good told = knownGood(good);
        requireRange(grams, 0, LITTLE_GRAMS);
        return changeGood(told, RATIONED, grams);
    }

    public int onPoints(int good, int price) throws IndexOutOfBoundsException, IllegalArgumentException {
        Good told = knownGood(good);
        requireRange(price, LOWEST_PRICE, HIGHEST_PRICE);
        return changeGood(told, POINTS, price);
    }

    public int free(int good) throws IndexOutOfBoundsException {
        return changeGood(knownGood(good), FREE, 0);
    }

    public int energy(int good, int energy) throws IndexOutOfBoundsException, IllegalArgumentException {
        Good told = knownGood(good);
        requireRange(energy, 0, MOST_ENERGY);
        int before = told.energyNow;
        told.energyNow = energy;
        return before;
    }

    public int points(int points, int jump) throws IllegalArgumentException {
        requireRange(points, 0, MOST_POINTS);
        requireRange(jump, 0, MOST_JUMP);
        int before = pointsTold;
        pointsTold = points;
        jumpTold = jump;
        return before;
    }

    public int goodIs(int good, int what) throws IndexOutOfBoundsException, IllegalArgumentException {
        Good asked = knownGood(good);
        requireRange(what, 0, 5);
        switch (what) {
            case 0:
                return asked.state;
            case 1:
                return asked.amount;
            case 2:
                return asked.energyNow;
            case 3:
                return asked.sold;
            case 4:
                return liesInShops(good);
            default:
                return asked.onBlackMarket;
        }
    }

    // ---- people

    public int person(int kind, int shop)
            throws IndexOutOfBoundsException, IllegalArgumentException, IllegalStateException {
        Shop registered = knownShop(shop);
        requireRange(kind, CHILD, MOTHER);
        requireRoom(peopleCount, MOST_PEOPLE);
        people[peopleCount] = new Person(peopleCount, kind, registered);
        peopleCount++;
        return peopleCount - 1;
    }

    public int becomes(int person, int kind)
            throws IndexOutOfBoundsException, IllegalArgumentException, IllegalStateException {
        Person one = knownPerson(person);
        requireRange(kind, CHILD, MOTHER);
        requireAlive(one);
        int before = one.kind;
        one.kind = kind;
        return before;
    }

    public int moves(int person, int shop) throws IndexOutOfBoundsException, IllegalStateException {
        Person one = knownPerson(person);
        Shop next = knownShop(shop);
        requireAlive(one);
        one.next = next;
        return one.registered.number;
    }

    public int give(int person, int other, int points)
            throws IndexOutOfBoundsException, IllegalArgumentException, IllegalStateException {
        Person giver = knownPerson(person);
        Person getter = knownPerson(other);
        if (person == other) {
            throw new IllegalArgumentException("nobody gives points to themselves");
        }
        requireRange(points, 1, MOST_POINTS);
        requireBook(giver);
        requireBook(getter);
        if (pointsLeft(giver) < points) {
            throw new IllegalStateException("fewer points are left");
        }
        giver.pointsGone += points;
        getter.pointsGot += points;
        return pointsLeft(getter);
    }

    public int stealBook(int person) throws IndexOutOfBoundsException, IllegalStateException {
        Person one = knownPerson(person);
        requireBook(one);
        int before = pointsLeft(one);
        one.bookStolen = true;
        return before;
    }

    public int personIs(int person, int what) throws IndexOutOfBoundsException, IllegalArgumentException {
        Person one = knownPerson(person);
        requireRange(what, 0, 6);
        switch (what) {
            case 0:
                return one.kind;
            case 1:
                return one.registered.number;
            case 2:
                return one.health;
            case 3:
                return one.name;
            case 4:
                return pointsLeft(one);
            case 5:
                return one.energyEaten;
            default:
                return one.isDead() ? 1 : 0;
        }
    }

    public int left(int person, int good) throws IndexOutOfBoundsException {
        Person one = knownPerson(person);
        knownGood(good);
        return gramsLeft(one, good);
    }

    public int leftAnew(int person, int good) throws IndexOutOfBoundsException {
        Person one = knownPerson(person);
        Good asked = knownGood(good);
        return gramsLeftAfter(one, asked, sales.boughtIn(monthNow, one.number, good));
    }

    // ---- depots, shops

    public int depot(int above) throws IndexOutOfBoundsException, IllegalStateException {
        Depot higher = null;
        if (depotCount > 0 || above != NONE) {
            higher = knownDepot(above);
        }
        requireRoom(depotCount, MOST_DEPOTS);
        depots[depotCount] = new Depot(depotCount, higher);
        depotCount++;
        return depotCount - 1;
    }

    public int shop(int depot) throws IndexOutOfBoundsException, IllegalStateException {
        Depot source = knownDepot(depot);
        requireRoom(shopCount, MOST_SHOPS);
        shops[shopCount] = new Shop(shopCount, source);
        shopCount++;
        return shopCount - 1;
    }

    public int ship(int depot, int good, int grams) throws IndexOutOfBoundsException, IllegalArgumentException {
        Depot target = knownDepot(depot);
        knownGood(good);
        requireRange(grams, 1, MANY_GRAMS);
        bringTo(target, good, grams);
        return target.grams[good];
    }

    public int lose(int depot, int good, int grams)
            throws IndexOutOfBoundsException, IllegalArgumentException, IllegalStateException {
        Depot loser = knownDepot(depot);
        knownGood(good);
        requireRange(grams, 1, MANY_GRAMS);
        requireEnough(loser.grams[good], grams);
        loser.grams[good] -= grams;
        gramsLost += grams;
        return loser.grams[good];
    }

    public int depotHas(int depot, int good) throws IndexOutOfBoundsException {
        Depot asked = knownDepot(depot);
        knownGood(good);
        return asked.grams[good];
    }

    public int buy(int person, int shop, int good, int grams)
            throws IndexOutOfBoundsException, IllegalArgumentException, IllegalStateException {
        Person one = knownPerson(person);
        Shop seller = knownShop(shop);
        Good wanted = knownGood(good);
        requireRange(grams, 1, LITTLE_GRAMS);
        if (wanted.state == POINTS && grams % 100 != 0) {
            throw new IllegalArgumentException("on points only whole hundreds of grams are sold");
        }
        requireAlive(one);
        requireAllowed(one, seller, good, grams);
        requireEnough(seller.shelves[good].grams, grams);
        handOver(seller.shelves[good], wanted, grams);
        eat(one, wanted, grams);
        return markInBook(one, good, grams);
    }

    public int claim(int shop, int good, int grams)
            throws IndexOutOfBoundsException, IllegalArgumentException, IllegalStateException {
        Shop claimant = knownShop(shop);
        knownGood(good);
        requireRange(grams, 1, MANY_GRAMS);
        Shelf shelf = claimant.shelves[good];
        requireEnough(shelf.coupons, grams);
        requireSupply(claimant, good, grams);
        shelf.coupons -= grams;
        supply(claimant, good, grams);
        return shelf.grams;
    }

    public int advance(int shop, int good, int grams)
            throws IndexOutOfBoundsException, IllegalArgumentException, IllegalStateException {
        Shop debtor = knownShop(shop);
        knownGood(good);
        requireRange(grams, 1, MANY_GRAMS);
        requireSupply(debtor, good, grams);
        Shelf shelf = debtor.shelves[good];
        shelf.owed += grams;
        supply(debtor, good, grams);
        return shelf.owed;
    }

    public int settle(int shop, int good) throws IndexOutOfBoundsException {
        Shop debtor = knownShop(shop);
        knownGood(good);
        Shelf shelf = debtor.shelves[good];
        int paid = Math.min(shelf.coupons, shelf.owed);
        shelf.coupons -= paid;
        shelf.owed -= paid;
        return paid;
    }

    public int lacks(int shop, int good, int grams, int what)
            throws IndexOutOfBoundsException, IllegalArgumentException {
        Shop asker = knownShop(shop);
        knownGood(good);
        requireRange(grams, 1, MANY_GRAMS);
        requireRange(what, 0, 2);
        int lacking = 0;
        int lack = 0;
        int highest = NONE;
        int wanted = grams;
        for (Depot asked = asker.source; asked != null && asked.grams[good] < wanted; asked = asked.above) {
            wanted -= asked.grams[good];
            lacking++;
            lack = wanted;
            highest = asked.number;
        }
        return what == 0 ? lacking : what == 1 ? lack : highest;
    }

    public int shopIs(int shop, int good, int what) throws IndexOutOfBoundsException, IllegalArgumentException {
        Shop asked = knownShop(shop);
        knownGood(good);
        requireRange(what, 0, 4);
        Shelf shelf = asked.shelves[good];
        switch (what) {
            case 0:
                return shelf.grams;
            case 1:
                return shelf.coupons;
            case 2:
                return shelf.owed;
            case 3:
                return shelf.supplied - shelf.sold - shelf.grams;
            default:
                return shelf.forgedCoupons;
        }
    }

    // ---- forged, stolen, black

    public int forge(int shop, int good, int grams) throws IndexOutOfBoundsException, IllegalArgumentException {
        Shop forger = knownShop(shop);
        knownGood(good);
        requireRange(grams, 1, LITTLE_GRAMS);
        Shelf shelf = forger.shelves[good];
        shelf.coupons += grams;
        shelf.forgedCoupons += grams;
        return shelf.coupons;
    }

    public int steal(int shop, int good, int grams)
            throws IndexOutOfBoundsException, IllegalArgumentException, IllegalStateException {
        Shop robbed = knownShop(shop);
        Good stolen = knownGood(good);
        requireRange(grams, 1, LITTLE_GRAMS);
        Shelf shelf = robbed.shelves[good];
        requireEnough(shelf.grams, grams);
        shelf.grams -= grams;
        stolen.onBlackMarket += grams;
        return stolen.onBlackMarket;
    }

    public int inspect(int shop) throws IndexOutOfBoundsException {
        Shop inspected = knownShop(shop);
        visits++;
        int takenAway = 0;
        for (int good = 0; good < inspected.shelves.length; good++) {
            Shelf shelf = inspected.shelves[good];
            int taken = Math.min(shelf.forgedCoupons, shelf.coupons);
            shelf.forgedCoupons -= taken;
            shelf.coupons -= taken;
            takenAway += taken;
        }
        return takenAway;
    }

    public int black(int person, int good, int grams)
            throws IndexOutOfBoundsException, IllegalArgumentException, IllegalStateException {
        Person one = knownPerson(person);
        Good wanted = knownGood(good);
        requireRange(grams, 1, LITTLE_GRAMS);
        requireAlive(one);
        requireEnough(wanted.onBlackMarket, grams);
        int cents = grams * (50 + 25 * visits) / 100;
        wanted.onBlackMarket -= grams;
        centsPaid += cents;
        eat(one, wanted, grams);
        return cents;
    }

    // ---- farms, months, diets

    public int farm(int depot, int good, int quota)
            throws IndexOutOfBoundsException, IllegalArgumentException, IllegalStateException {
        Depot target = knownDepot(depot);
        knownGood(good);
        requireRange(quota, 1, MANY_GRAMS);
        requireRoom(farmCount, MOST_FARMS);
        farms[farmCount] = new Farm(target, good, quota);
        farmCount++;
        return farmCount - 1;
    }

    public int deliver(int farm, int grams) throws IndexOutOfBoundsException, IllegalArgumentException {
        Farm deliverer = knownFarm(farm);
        requireRange(grams, 1, MANY_GRAMS);
        deliverer.delivered += grams;
        bringTo(deliverer.target, deliverer.good, grams);
        return deliverer.delivered;
    }

    public int failed(int farm) throws IndexOutOfBoundsException {
        return knownFarm(farm).failures;
    }

    public int month() throws IllegalStateException {
        if (monthNow >= LAST_MONTH) {
            throw new IllegalStateException("the last month does not end");
        }
        closeFarms();
        closePeople();
        repriceGoods();
        openNewMonth();
        return monthNow;
    }

    public int diet(int energy) throws IllegalArgumentException {
        requireRange(energy, 1, MOST_DIET);
        leastPoints[0] = 0;
        for (int wanted = 1; wanted <= energy; wanted++) {
            leastPoints[wanted] = leastFor(wanted);
        }
        return leastPoints[energy];
    }

    public int sum(int what) throws IllegalArgumentException {
        requireRange(what, 0, 8);
        switch (what) {
            case 0:
                return monthNow;
            case 1:
                return gramsCame;
            case 2:
                return gramsInDepots();
            case 3:
                return gramsInShops();
            case 4:
                return gramsEaten;
            case 5:
                return gramsLost;
            case 6:
                return gramsOnBlackMarket();
            case 7:
                return peopleAlive();
            default:
                return centsPaid;
        }
    }

    // ---- what a call requires

    private Good knownGood(int good) {
        if (good < 0 || good >= GOODS) {
            throw new IndexOutOfBoundsException("no such good");
        }
        return goods[good];
    }

    private Person knownPerson(int person) {
        if (person < 0 || person >= peopleCount) {
            throw new IndexOutOfBoundsException("no such person");
        }
        return people[person];
    }

    private Depot knownDepot(int depot) {
        if (depot < 0 || depot >= depotCount) {
            throw new IndexOutOfBoundsException("no such depot");
        }
        return depots[depot];
    }

    private Shop knownShop(int shop) {
        if (shop < 0 || shop >= shopCount) {
            throw new IndexOutOfBoundsException("no such shop");
        }
        return shops[shop];
    }

    private Farm knownFarm(int farm) {
        if (farm < 0 || farm >= farmCount) {
            throw new IndexOutOfBoundsException("no such farm");
        }
        return farms[farm];
    }

    private static void requireRange(int number, int least, int most) {
        if (number < least || number > most) {
            throw new IllegalArgumentException("out of range");
        }
    }

    private static void requireRoom(int count, int most) {
        if (count >= most) {
            throw new IllegalStateException("there are as many as can be");
        }
    }

    private static void requireAlive(Person one) {
        if (one.isDead()) {
            throw new IllegalStateException("they are dead");
        }
    }

    private static void requireBook(Person one) {
        if (one.isWithoutBook()) {
            throw new IllegalStateException("they are dead, or the book is stolen");
        }
    }

    private static void requireEnough(int has, int wanted) {
        if (has < wanted) {
            throw new IllegalStateException("there are fewer");
        }
    }

    private void requireAllowed(Person one, Shop seller, int good, int grams) {
        Good wanted = goods[good];
        if (wanted.state == RATIONED && (one.registered != seller || grams > gramsLeft(one, good))) {
            throw new IllegalStateException("they may not buy so many grams there");
        }
        if (wanted.state == POINTS && pointsFor(wanted, grams) > pointsLeft(one)) {
            throw new IllegalStateException("fewer points are left");
        }
    }

    /** Looked at ahead of the supply, as nothing may move anywhere if it fails at the top. */
    private static void requireSupply(Shop asker, int good, int grams) {
        int wanted = grams;
        for (Depot asked = asker.source; asked != null; asked = asked.above) {
            if (asked.grams[good] >= wanted) {
                return;
            }
            wanted -= asked.grams[good];
        }
        throw new IllegalStateException("the depots cannot supply so many");
    }

    // ---- goods and books

    private static int changeGood(Good told, int state, int amount) {
        int before = told.state;
        told.state = state;
        told.amount = amount;
        return before;
    }

    private static int pointsFor(Good wanted, int grams) {
        return wanted.amount * (grams / 100);
    }

    private int pointsLeft(Person one) {
        return one.isWithoutBook() ? 0 : Math.max(0, pointsTold + one.pointsGot - one.pointsGone);
    }

    private int gramsLeft(Person one, int good) {
        return gramsLeftAfter(one, goods[good], one.bought[good]);
    }

    private static int gramsLeftAfter(Person one, Good asked, int bought) {
        if (asked.state != RATIONED || one.isWithoutBook()) {
            return 0;
        }
        return Math.max(0, asked.amount * one.quarters() / 4 - bought);
    }

    // ---- what moves

    private void bringTo(Depot target, int good, int grams) {
        target.grams[good] += grams;
        gramsCame += grams;
    }

    /** Each DEPOT that lacks some gives all that it has; the rest only passes through it from above. */
    private static void supply(Shop asker, int good, int grams) {
        int wanted = grams;
        for (Depot asked = asker.source; asked != null && wanted > 0; asked = asked.above) {
            int given = Math.min(wanted, asked.grams[good]);
            asked.grams[good] -= given;
            wanted -= given;
        }
        Shelf shelf = asker.shelves[good];
        shelf.grams += grams;
        shelf.supplied += grams;
    }

    private static void handOver(Shelf shelf, Good wanted, int grams) {
        shelf.grams -= grams;
        shelf.sold += grams;
        wanted.sold += grams;
        if (wanted.state != FREE) {
            shelf.coupons += grams;
        }
    }

    private int markInBook(Person one, int good, int grams) {
        Good wanted = goods[good];
        if (wanted.state == RATIONED) {
            one.bought[good] += grams;
            sales.note(monthNow, one.number, good, grams);
            return gramsLeft(one, good);
        }
        if (wanted.state == POINTS) {
            one.pointsGone += pointsFor(wanted, grams);
            return pointsLeft(one);
        }
        return NONE;
    }

    private void eat(Person one, Good eaten, int grams) {
        one.energyEaten += grams * eaten.energyNow / 100;
        gramsEaten += grams;
    }

    // ---- the end of a month

    private void closeFarms() {
        for (int i = 0; i < farmCount; i++) {
            Farm farm = farms[i];
            if (farm.delivered < farm.quota) {
                farm.failures++;
            }
            farm.delivered = 0;
        }
    }

    private void closePeople() {
        for (int i = 0; i < peopleCount; i++) {
            if (!people[i].isDead()) {
                closePerson(people[i]);
            }
        }
    }

    private void closePerson(Person one) {
        int need = 400 * one.quarters();
        if (one.energyEaten >= need) {
            one.health = Math.min(FULL_HEALTH, one.health + 3);
            one.name = NONE;
            return;
        }
        // Named ahead of the fall: to a dead one nothing is LEFT, so that nothing could be LACKED.
        one.name = nameOfFall(one);
        int fall = 2 * one.energyEaten < need ? 20 : 5;
        one.health = Math.max(0, one.health - fall);
    }

    private int nameOfFall(Person one) {
        if (one.bookStolen) {
            return STOLEN;
        }
        for (int good = 0; good < GOODS; good++) {
            if (gramsLeft(one, good) > one.registered.shelves[good].grams) {
                return LACKED;
            }
        }
        return UNSPENT;
    }

    private void repriceGoods() {
        for (int good = 0; good < GOODS; good++) {
            if (goods[good].state == POINTS) {
                repriceGood(goods[good], liesInShops(good));
            }
        }
    }

    private void repriceGood(Good priced, int lies) {
        int both = priced.sold + lies;
        if (both <= 0) {
            return;
        }
        int tenths = 10 * priced.sold / both;
        int rise = Math.min(jumpTold, Math.max(0, tenths - 7));
        int fall = Math.min(jumpTold, Math.max(0, 3 - tenths));
        priced.amount = Math.max(LOWEST_PRICE, Math.min(HIGHEST_PRICE, priced.amount + rise - fall));
    }

    private void openNewMonth() {
        monthNow++;
        visits = 0;
        for (int good = 0; good < GOODS; good++) {
            goods[good].sold = 0;
        }
        for (int i = 0; i < peopleCount; i++) {
            people[i].openNewBook();
        }
    }

    // ---- the least points

    /** All smaller energies have their least points in the row already. */
    private int leastFor(int wanted) {
        int least = NONE;
        for (int good = 0; good < GOODS; good++) {
            Good offered = goods[good];
            if (offered.state == POINTS && offered.energyNow > 0) {
                int rest = Math.max(0, wanted - offered.energyNow);
                int cost = offered.amount + leastPoints[rest];
                least = least == NONE ? cost : Math.min(least, cost);
            }
        }
        return least;
    }

    // ---- sums

    private int liesInShops(int good) {
        int all = 0;
        for (int i = 0; i < shopCount; i++) {
            all += shops[i].shelves[good].grams;
        }
        return all;
    }

    private int gramsInShops() {
        int all = 0;
        for (int good = 0; good < GOODS; good++) {
            all += liesInShops(good);
        }
        return all;
    }

    private int gramsInDepots() {
        int all = 0;
        for (int i = 0; i < depotCount; i++) {
            for (int good = 0; good < GOODS; good++) {
                all += depots[i].grams[good];
            }
        }
        return all;
    }

    private int gramsOnBlackMarket() {
        int all = 0;
        for (int good = 0; good < GOODS; good++) {
            all += goods[good].onBlackMarket;
        }
        return all;
    }

    private int peopleAlive() {
        int alive = 0;
        for (int i = 0; i < peopleCount; i++) {
            if (!people[i].isDead()) {
                alive++;
            }
        }
        return alive;
    }
}
