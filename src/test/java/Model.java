import java.util.ArrayList;
import java.util.List;

/**
 * The document once more, told in another way: nearly all is summed up anew from a list of events, for each question.
 * A call answers the number, or one of REFUSED + Check.INDEX to REFUSED + Check.STATE.
 */
final class Model {
    static final long REFUSED = 1L << 40;
    private static final long INDEX = REFUSED + Check.INDEX;
    private static final long ARGUMENT = REFUSED + Check.ARGUMENT;
    private static final long STATE = REFUSED + Check.STATE;
    private static final int[] QUARTERS = {2, 4, 6, 5};

    private enum Kind { SHIP, LOSE, SEND, BUY, CLAIM, ADVANCE, PAY, FORGE, TAKE, STEAL, VISIT, BLACK, DELIVER, GIVE,
        ROB }

    /** The place is a depot, a shop, a farm or another person, by the kind. */
    private static final class Event {
        Kind kind;
        int month;
        int person;
        int place;
        int good;
        int amount;
        int state;
        int cost;
        int energy;
    }

    private interface Test {
        boolean holds(Event event);
    }

    private final List<Event> events = new ArrayList<>();
    private final List<int[]> people = new ArrayList<>();
    private final List<Integer> depots = new ArrayList<>();
    private final List<Integer> shops = new ArrayList<>();
    private final List<int[]> farms = new ArrayList<>();
    private final int[] state = new int[6];
    private final int[] number = new int[6];
    private final int[] energies = new int[6];
    private int points = 20;
    private int jump = 2;
    private int month = 0;

    private Event note(Kind kind, int person, int place, int good, int amount) {
        Event event = new Event();
        event.kind = kind;
        event.month = month;
        event.person = person;
        event.place = place;
        event.good = good;
        event.amount = amount;
        if (good >= 0) {
            event.state = state[good];
            event.cost = number[good] * (amount / 100);
            event.energy = amount * energies[good] / 100;
        }
        events.add(event);
        return event;
    }

    private int total(Test test) {
        int all = 0;
        for (Event event : events) {
            if (test.holds(event)) {
                all += event.amount;
            }
        }
        return all;
    }

    private int at(Kind kind, int place, int good) {
        return total(e -> e.kind == kind && e.place == place && e.good == good);
    }

    private int of(Kind kind) {
        return total(e -> e.kind == kind);
    }

    private boolean noGood(int good) {
        return good < 0 || good > 5;
    }

    private static boolean out(List<?> list, int index) {
        return index < 0 || index >= list.size();
    }

    private static boolean beyond(int value, int least, int most) {
        return value < least || value > most;
    }

    private boolean dead(int person) {
        return people.get(person)[3] <= 0;
    }

    private boolean robbed(int person) {
        return events.stream().anyMatch(e -> e.kind == Kind.ROB && e.month == month && e.person == person);
    }

    private int pointsLeft(int person) {
        if (dead(person) || robbed(person)) {
            return 0;
        }
        int sum = points;
        for (Event e : events) {
            if (e.month != month) {
                continue;
            }
            if (e.kind == Kind.GIVE) {
                sum += e.place == person ? e.amount : 0;
                sum -= e.person == person ? e.amount : 0;
            }
            if (e.kind == Kind.BUY && e.person == person && e.state == 1) {
                sum -= e.cost;
            }
        }
        return sum < 0 ? 0 : sum;
    }

    private int gramsLeft(int person, int good) {
        if (dead(person) || robbed(person) || state[good] != 0) {
            return 0;
        }
        int book = number[good] * QUARTERS[people.get(person)[0]] / 4;
        int bought = total(e -> e.kind == Kind.BUY && e.month == month && e.person == person && e.good == good
            && e.state == 0);
        return bought > book ? 0 : book - bought;
    }

    private int eaten(int person) {
        int all = 0;
        for (Event e : events) {
            if ((e.kind == Kind.BUY || e.kind == Kind.BLACK) && e.month == month && e.person == person) {
                all += e.energy;
            }
        }
        return all;
    }

    private int inDepot(int depot, int good) {
        int came = at(Kind.SHIP, depot, good);
        for (int farm = 0; farm < farms.size(); farm++) {
            if (farms.get(farm)[0] == depot) {
                came += at(Kind.DELIVER, farm, good);
            }
        }
        return came - at(Kind.LOSE, depot, good) - at(Kind.SEND, depot, good);
    }

    private int inShop(int shop, int good) {
        return at(Kind.CLAIM, shop, good) + at(Kind.ADVANCE, shop, good) - at(Kind.BUY, shop, good)
            - at(Kind.STEAL, shop, good);
    }

    private int coupons(int shop, int good) {
        return total(e -> e.kind == Kind.BUY && e.place == shop && e.good == good && e.state != 2)
            + at(Kind.FORGE, shop, good) - at(Kind.CLAIM, shop, good) - at(Kind.PAY, shop, good)
            - at(Kind.TAKE, shop, good);
    }

    private int owed(int shop, int good) {
        return at(Kind.ADVANCE, shop, good) - at(Kind.PAY, shop, good);
    }

    private int tooMany(int shop, int good) {
        return at(Kind.FORGE, shop, good) - at(Kind.TAKE, shop, good);
    }

    private int onBlack(int good) {
        return total(e -> e.kind == Kind.STEAL && e.good == good) - total(e -> e.kind == Kind.BLACK && e.good == good);
    }

    private int sold(int good) {
        return total(e -> e.kind == Kind.BUY && e.good == good && e.month == month);
    }

    private int lies(int good) {
        int all = 0;
        for (int shop = 0; shop < shops.size(); shop++) {
            all += inShop(shop, good);
        }
        return all;
    }

    private boolean canSupply(int depot, int good, int grams) {
        int has = inDepot(depot, good);
        return has >= grams || depots.get(depot) >= 0 && canSupply(depots.get(depot), good, grams - has);
    }

    /** As the document tells it: what comes from above comes to the depot first, and then goes on. */
    private void supply(int depot, int good, int grams) {
        int has = inDepot(depot, good);
        if (has < grams) {
            supply(depots.get(depot), good, grams - has);
            note(Kind.SEND, -1, depot, good, has - grams);
        }
        note(Kind.SEND, -1, depot, good, grams);
    }

    long ration(int good, int grams) {
        return noGood(good) ? INDEX : beyond(grams, 0, 9999) ? ARGUMENT : become(good, 0, grams);
    }

    long onPoints(int good, int price) {
        return noGood(good) ? INDEX : beyond(price, 1, 24) ? ARGUMENT : become(good, 1, price);
    }

    long free(int good) {
        return noGood(good) ? INDEX : become(good, 2, 0);
    }

    private int become(int good, int now, int told) {
        int before = state[good];
        state[good] = now;
        number[good] = told;
        return before;
    }

    long energy(int good, int energy) {
        if (noGood(good)) {
            return INDEX;
        }
        if (beyond(energy, 0, 900)) {
            return ARGUMENT;
        }
        int before = energies[good];
        energies[good] = energy;
        return before;
    }

    long points(int told, int most) {
        if (beyond(told, 0, 99) || beyond(most, 0, 9)) {
            return ARGUMENT;
        }
        int before = points;
        points = told;
        jump = most;
        return before;
    }

    long goodIs(int good, int what) {
        if (noGood(good)) {
            return INDEX;
        }
        if (beyond(what, 0, 5)) {
            return ARGUMENT;
        }
        return new int[] {state[good], number[good], energies[good], sold(good), lies(good), onBlack(good)}[what];
    }

    long person(int kind, int shop) {
        if (out(shops, shop)) {
            return INDEX;
        }
        if (beyond(kind, 0, 3)) {
            return ARGUMENT;
        }
        if (people.size() == 20) {
            return STATE;
        }
        people.add(new int[] {kind, shop, shop, 100, -1});
        return people.size() - 1;
    }

    long becomes(int person, int kind) {
        if (out(people, person)) {
            return INDEX;
        }
        if (beyond(kind, 0, 3)) {
            return ARGUMENT;
        }
        if (dead(person)) {
            return STATE;
        }
        int before = people.get(person)[0];
        people.get(person)[0] = kind;
        return before;
    }

    long moves(int person, int shop) {
        if (out(people, person) || out(shops, shop)) {
            return INDEX;
        }
        if (dead(person)) {
            return STATE;
        }
        people.get(person)[2] = shop;
        return people.get(person)[1];
    }

    long give(int person, int other, int given) {
        if (out(people, person) || out(people, other)) {
            return INDEX;
        }
        if (person == other || beyond(given, 1, 99)) {
            return ARGUMENT;
        }
        if (dead(person) || dead(other) || robbed(person) || robbed(other) || pointsLeft(person) < given) {
            return STATE;
        }
        note(Kind.GIVE, person, other, -1, given);
        return pointsLeft(other);
    }

    long stealBook(int person) {
        if (out(people, person)) {
            return INDEX;
        }
        if (dead(person) || robbed(person)) {
            return STATE;
        }
        int before = pointsLeft(person);
        note(Kind.ROB, person, -1, -1, 0);
        return before;
    }

    long personIs(int person, int what) {
        if (out(people, person)) {
            return INDEX;
        }
        if (beyond(what, 0, 6)) {
            return ARGUMENT;
        }
        int[] one = people.get(person);
        return new int[] {one[0], one[1], dead(person) ? 0 : one[3], one[4], pointsLeft(person), eaten(person),
            dead(person) ? 1 : 0}[what];
    }

    long left(int person, int good) {
        return out(people, person) || noGood(good) ? INDEX : gramsLeft(person, good);
    }

    long depot(int above) {
        if (depots.isEmpty() ? above != -1 : out(depots, above)) {
            return INDEX;
        }
        if (depots.size() == 6) {
            return STATE;
        }
        depots.add(above);
        return depots.size() - 1;
    }

    long shop(int depot) {
        if (out(depots, depot)) {
            return INDEX;
        }
        if (shops.size() == 6) {
            return STATE;
        }
        shops.add(depot);
        return shops.size() - 1;
    }

    long ship(int depot, int good, int grams) {
        if (out(depots, depot) || noGood(good)) {
            return INDEX;
        }
        if (beyond(grams, 1, 99999)) {
            return ARGUMENT;
        }
        note(Kind.SHIP, -1, depot, good, grams);
        return inDepot(depot, good);
    }

    long lose(int depot, int good, int grams) {
        if (out(depots, depot) || noGood(good)) {
            return INDEX;
        }
        if (beyond(grams, 1, 99999)) {
            return ARGUMENT;
        }
        if (inDepot(depot, good) < grams) {
            return STATE;
        }
        note(Kind.LOSE, -1, depot, good, grams);
        return inDepot(depot, good);
    }

    long depotHas(int depot, int good) {
        return out(depots, depot) || noGood(good) ? INDEX : inDepot(depot, good);
    }

    long buy(int person, int shop, int good, int grams) {
        if (out(people, person) || out(shops, shop) || noGood(good)) {
            return INDEX;
        }
        if (beyond(grams, 1, 9999) || state[good] == 1 && grams % 100 > 0) {
            return ARGUMENT;
        }
        boolean may = state[good] == 2
            || state[good] == 1 && grams / 100 * number[good] <= pointsLeft(person)
            || state[good] == 0 && people.get(person)[1] == shop && grams <= gramsLeft(person, good);
        if (dead(person) || !may || inShop(shop, good) < grams) {
            return STATE;
        }
        note(Kind.BUY, person, shop, good, grams);
        return state[good] == 0 ? gramsLeft(person, good) : state[good] == 1 ? pointsLeft(person) : -1;
    }

    private long badGrams(int shop, int good, int grams, int most) {
        return out(shops, shop) || noGood(good) ? INDEX : beyond(grams, 1, most) ? ARGUMENT : 0;
    }

    long claim(int shop, int good, int grams) {
        long bad = badGrams(shop, good, grams, 99999);
        if (bad != 0) {
            return bad;
        }
        if (coupons(shop, good) < grams || !canSupply(shops.get(shop), good, grams)) {
            return STATE;
        }
        supply(shops.get(shop), good, grams);
        note(Kind.CLAIM, -1, shop, good, grams);
        return inShop(shop, good);
    }

    long advance(int shop, int good, int grams) {
        long bad = badGrams(shop, good, grams, 99999);
        if (bad != 0) {
            return bad;
        }
        if (!canSupply(shops.get(shop), good, grams)) {
            return STATE;
        }
        supply(shops.get(shop), good, grams);
        note(Kind.ADVANCE, -1, shop, good, grams);
        return owed(shop, good);
    }

    long settle(int shop, int good) {
        if (out(shops, shop) || noGood(good)) {
            return INDEX;
        }
        int paid = Math.min(coupons(shop, good), owed(shop, good));
        note(Kind.PAY, -1, shop, good, paid);
        return paid;
    }

    long lacks(int shop, int good, int grams, int what) {
        long bad = badGrams(shop, good, grams, 99999);
        if (bad != 0) {
            return bad;
        }
        if (beyond(what, 0, 2)) {
            return ARGUMENT;
        }
        List<int[]> lacking = new ArrayList<>();
        ask(shops.get(shop), good, grams, lacking);
        if (what == 0) {
            return lacking.size();
        }
        int[] last = lacking.isEmpty() ? new int[] {-1, 0} : lacking.get(lacking.size() - 1);
        return what == 1 ? last[1] : last[0];
    }

    private void ask(int depot, int good, int grams, List<int[]> lacking) {
        int has = inDepot(depot, good);
        if (has >= grams) {
            return;
        }
        lacking.add(new int[] {depot, grams - has});
        if (depots.get(depot) >= 0) {
            ask(depots.get(depot), good, grams - has, lacking);
        }
    }

    long shopIs(int shop, int good, int what) {
        if (out(shops, shop) || noGood(good)) {
            return INDEX;
        }
        if (beyond(what, 0, 4)) {
            return ARGUMENT;
        }
        return new int[] {inShop(shop, good), coupons(shop, good), owed(shop, good), at(Kind.STEAL, shop, good),
            tooMany(shop, good)}[what];
    }

    long forge(int shop, int good, int grams) {
        long bad = badGrams(shop, good, grams, 9999);
        if (bad != 0) {
            return bad;
        }
        note(Kind.FORGE, -1, shop, good, grams);
        return coupons(shop, good);
    }

    long steal(int shop, int good, int grams) {
        long bad = badGrams(shop, good, grams, 9999);
        if (bad != 0) {
            return bad;
        }
        if (inShop(shop, good) < grams) {
            return STATE;
        }
        note(Kind.STEAL, -1, shop, good, grams);
        return onBlack(good);
    }

    long inspect(int shop) {
        if (out(shops, shop)) {
            return INDEX;
        }
        note(Kind.VISIT, -1, shop, -1, 1);
        int all = 0;
        for (int good = 0; good < 6; good++) {
            int taken = Math.min(tooMany(shop, good), coupons(shop, good));
            note(Kind.TAKE, -1, shop, good, taken);
            all += taken;
        }
        return all;
    }

    long black(int person, int good, int grams) {
        if (out(people, person) || noGood(good)) {
            return INDEX;
        }
        if (beyond(grams, 1, 9999)) {
            return ARGUMENT;
        }
        if (dead(person) || onBlack(good) < grams) {
            return STATE;
        }
        int price = 50 + 25 * total(e -> e.kind == Kind.VISIT && e.month == month);
        Event event = note(Kind.BLACK, person, -1, good, grams);
        event.cost = grams * price / 100;
        return event.cost;
    }

    long farm(int depot, int good, int quota) {
        if (out(depots, depot) || noGood(good)) {
            return INDEX;
        }
        if (beyond(quota, 1, 99999)) {
            return ARGUMENT;
        }
        if (farms.size() == 6) {
            return STATE;
        }
        farms.add(new int[] {depot, good, quota, 0});
        return farms.size() - 1;
    }

    private int delivered(int farm) {
        return total(e -> e.kind == Kind.DELIVER && e.place == farm && e.month == month);
    }

    long deliver(int farm, int grams) {
        if (out(farms, farm)) {
            return INDEX;
        }
        if (beyond(grams, 1, 99999)) {
            return ARGUMENT;
        }
        note(Kind.DELIVER, -1, farm, farms.get(farm)[1], grams);
        return delivered(farm);
    }

    long failed(int farm) {
        return out(farms, farm) ? INDEX : farms.get(farm)[3];
    }

    long month() {
        if (month == 240) {
            return STATE;
        }
        for (int farm = 0; farm < farms.size(); farm++) {
            farms.get(farm)[3] += delivered(farm) < farms.get(farm)[2] ? 1 : 0;
        }
        for (int person = 0; person < people.size(); person++) {
            if (!dead(person)) {
                judge(person, people.get(person));
            }
        }
        for (int good = 0; good < 6; good++) {
            reprice(good);
        }
        month++;
        for (int[] one : people) {
            one[1] = one[2];
        }
        return month;
    }

    private void judge(int person, int[] one) {
        int need = 400 * QUARTERS[one[0]];
        int energy = eaten(person);
        if (energy >= need) {
            one[3] = one[3] > 97 ? 100 : one[3] + 3;
            one[4] = -1;
            return;
        }
        boolean lacked = false;
        for (int good = 0; good < 6; good++) {
            lacked |= gramsLeft(person, good) > inShop(one[1], good);
        }
        one[4] = robbed(person) ? 0 : lacked ? 1 : 2;
        one[3] -= energy < need / 2 ? 20 : 5;
    }

    private void reprice(int good) {
        int sold = sold(good);
        int both = sold + lies(good);
        if (state[good] != 1 || both == 0) {
            return;
        }
        int tenths = 10 * sold / both;
        int by = tenths > 7 ? Math.min(tenths - 7, jump) : tenths < 3 ? -Math.min(3 - tenths, jump) : 0;
        number[good] += by;
        number[good] = number[good] < 1 ? 1 : number[good] > 24 ? 24 : number[good];
    }

    /** The most energy for each number of points, until it is enough. */
    long diet(int energy) {
        if (beyond(energy, 1, 3000)) {
            return ARGUMENT;
        }
        List<Integer> most = new ArrayList<>();
        for (int spent = 0; spent <= 72000; spent++) {
            int best = 0;
            for (int good = 0; good < 6; good++) {
                if (state[good] == 1 && number[good] <= spent) {
                    best = Math.max(best, most.get(spent - number[good]) + energies[good]);
                }
            }
            most.add(best);
            if (best >= energy) {
                return spent;
            }
        }
        return -1;
    }

    long sum(int what) {
        if (beyond(what, 0, 8)) {
            return ARGUMENT;
        }
        int inDepots = of(Kind.SHIP) + of(Kind.DELIVER) - of(Kind.LOSE) - of(Kind.SEND);
        int inShops = of(Kind.CLAIM) + of(Kind.ADVANCE) - of(Kind.BUY) - of(Kind.STEAL);
        int alive = 0;
        for (int person = 0; person < people.size(); person++) {
            alive += dead(person) ? 0 : 1;
        }
        int cents = 0;
        for (Event e : events) {
            cents += e.kind == Kind.BLACK ? e.cost : 0;
        }
        return new int[] {month, of(Kind.SHIP) + of(Kind.DELIVER), inDepots, inShops, of(Kind.BUY) + of(Kind.BLACK),
            of(Kind.LOSE), of(Kind.STEAL) - of(Kind.BLACK), alive, cents}[what];
    }
}
