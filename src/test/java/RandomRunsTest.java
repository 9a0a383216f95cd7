import java.util.Arrays;

/** Runs of 512 calls each, drawn from fixed seeds, with the answers of the model as the due ones. */
public final class RandomRunsTest {
    private static final int RUNS = 400;
    private static final int CALLS = 512;
    private static final String[] NAMES = {"ration", "onPoints", "free", "energy", "points", "goodIs", "person",
        "becomes", "moves", "give", "stealBook", "personIs", "left", "leftAnew", "depot", "shop", "ship", "lose",
        "depotHas", "buy", "claim", "advance", "settle", "lacks", "shopIs", "forge", "steal", "inspect", "black",
        "farm", "deliver", "failed", "month", "diet", "sum"};
    /** How often each of them is drawn, out of their sum. */
    private static final int[] WEIGHTS = {3, 4, 3, 4, 3, 9, 5, 4, 4, 8, 3, 10, 8, 10, 4, 4, 9, 4, 6, 40, 12, 12, 6, 8,
        14, 6, 8, 4, 10, 3, 5, 4, 6, 5, 9};

    private long seed;
    private final Pointsbook land = new Pointsbook();
    private final Model model = new Model();
    private final int strange;

    private RandomRunsTest(int run) {
        seed = run * 7919L + 12345;
        strange = run % 4 == 0 ? 8 : 60;
    }

    private int below(int bound) {
        seed = seed * 6364136223846793005L + 1442695040888963407L;
        return (int) ((seed >>> 33) % bound);
    }

    /** Mostly within 0 to most - 1, rarely beyond, at an edge, or far away. */
    private int index(int most) {
        if (below(strange) > 0) {
            return below(most);
        }
        int[] edges = {-1, most, -2, Integer.MAX_VALUE, Integer.MIN_VALUE, most + 1};
        return edges[below(edges.length)];
    }

    private int within(int least, int most) {
        int draw = below(strange);
        if (draw == 0) {
            int[] edges = {least - 1, most + 1, Integer.MAX_VALUE, Integer.MIN_VALUE};
            return edges[below(edges.length)];
        }
        return draw == 1 ? least : draw == 2 ? most : least + below(most - least + 1);
    }

    /** Amounts that are often about as large as what there is. */
    private int grams(long near, int most) {
        int draw = below(10);
        if (draw < 3 && near > 0 && near < Model.REFUSED) {
            return (int) near + below(3) - 1;
        }
        if (draw < 6 && near > 1 && near < Model.REFUSED) {
            return 1 + below((int) near);
        }
        return draw < 9 ? within(1, Math.min(most, 600)) : within(1, most);
    }

    private int hundreds(int grams) {
        return below(6) == 0 ? grams : Math.max(100, grams / 100 * 100);
    }

    private int shopIndex() {
        return below(3) == 0 ? index(6) : index(2);
    }

    private int depotIndex() {
        return below(3) == 0 ? index(6) : index(2);
    }

    private int personIndex() {
        return below(3) == 0 ? index(20) : index(4);
    }

    private int goodIndex() {
        return below(3) == 0 ? index(6) : index(3);
    }

    private int draw() {
        int all = 0;
        for (int weight : WEIGHTS) {
            all += weight;
        }
        int drawn = below(all);
        int call = 0;
        while (drawn >= WEIGHTS[call]) {
            drawn -= WEIGHTS[call];
            call++;
        }
        return call;
    }

    private int[] arguments(String name) {
        int person = personIndex();
        int shop = shopIndex();
        int depot = depotIndex();
        int good = goodIndex();
        switch (name) {
            case "ration": return new int[] {good, below(2) == 0 ? within(0, 9999) : below(700)};
            case "onPoints": return new int[] {good, within(1, 24)};
            case "free": return new int[] {good};
            case "energy": return new int[] {good, within(0, 900)};
            case "points": return new int[] {within(0, 99), within(0, 9)};
            case "goodIs": return new int[] {good, index(6)};
            case "person": return new int[] {index(4), shop};
            case "becomes": return new int[] {person, index(4)};
            case "moves": return new int[] {person, shop};
            case "give": return new int[] {person, personIndex(), grams(model.personIs(person, 4), 99)};
            case "stealBook": return new int[] {person};
            case "personIs": return new int[] {person, index(7)};
            case "left": case "leftAnew": return new int[] {person, good};
            case "depot": return new int[] {below(4) == 0 ? -1 : depot};
            case "shop": return new int[] {depot};
            case "ship": return new int[] {depot, good, grams(5000, 99999)};
            case "lose": return new int[] {depot, good, grams(model.depotHas(depot, good), 99999)};
            case "depotHas": return new int[] {depot, good};
            case "buy": return buying(person, good);
            default: return otherArguments(name, person, shop, depot, good);
        }
    }

    private int[] buying(int person, int good) {
        int shop = below(3) > 0 ? (int) Math.min(99, model.personIs(person, 1)) : shopIndex();
        if (model.goodIs(good, 0) == Pointsbook.POINTS) {
            long price = Math.max(1, model.goodIs(good, 1));
            return new int[] {person, shop, good, hundreds(grams(model.personIs(person, 4) / price * 100, 9999))};
        }
        long near = below(2) == 0 ? model.left(person, good) : model.shopIs(shop, good, 0);
        return new int[] {person, shop, good, grams(near, 9999)};
    }

    private int[] otherArguments(String name, int person, int shop, int depot, int good) {
        switch (name) {
            case "claim": return new int[] {shop, good, grams(model.shopIs(shop, good, 1), 99999)};
            case "advance": return new int[] {shop, good, grams(model.depotHas(depot, good), 99999)};
            case "settle": return new int[] {shop, good};
            case "lacks": return new int[] {shop, good, grams(model.depotHas(depot, good), 99999), index(3)};
            case "shopIs": return new int[] {shop, good, index(5)};
            case "forge": return new int[] {shop, good, grams(100, 9999)};
            case "steal": return new int[] {shop, good, grams(model.shopIs(shop, good, 0), 9999)};
            case "inspect": return new int[] {shop};
            case "black": return new int[] {person, good, grams(model.goodIs(good, 5), 9999)};
            case "farm": return new int[] {depot, good, within(1, 99999)};
            case "deliver": return new int[] {index(6), within(1, 99999)};
            case "failed": return new int[] {index(6)};
            case "month": return new int[0];
            case "diet": return new int[] {within(1, 3000)};
            default: return new int[] {index(9)};
        }
    }

    private int landAnswers(String name, int[] a) {
        switch (name) {
            case "ration": return land.ration(a[0], a[1]);
            case "onPoints": return land.onPoints(a[0], a[1]);
            case "free": return land.free(a[0]);
            case "energy": return land.energy(a[0], a[1]);
            case "points": return land.points(a[0], a[1]);
            case "goodIs": return land.goodIs(a[0], a[1]);
            case "person": return land.person(a[0], a[1]);
            case "becomes": return land.becomes(a[0], a[1]);
            case "moves": return land.moves(a[0], a[1]);
            case "give": return land.give(a[0], a[1], a[2]);
            case "stealBook": return land.stealBook(a[0]);
            case "personIs": return land.personIs(a[0], a[1]);
            case "left": return land.left(a[0], a[1]);
            case "leftAnew": return land.leftAnew(a[0], a[1]);
            case "depot": return land.depot(a[0]);
            case "shop": return land.shop(a[0]);
            case "ship": return land.ship(a[0], a[1], a[2]);
            case "lose": return land.lose(a[0], a[1], a[2]);
            case "depotHas": return land.depotHas(a[0], a[1]);
            case "buy": return land.buy(a[0], a[1], a[2], a[3]);
            default: return landAnswersElse(name, a);
        }
    }

    private int landAnswersElse(String name, int[] a) {
        switch (name) {
            case "claim": return land.claim(a[0], a[1], a[2]);
            case "advance": return land.advance(a[0], a[1], a[2]);
            case "settle": return land.settle(a[0], a[1]);
            case "lacks": return land.lacks(a[0], a[1], a[2], a[3]);
            case "shopIs": return land.shopIs(a[0], a[1], a[2]);
            case "forge": return land.forge(a[0], a[1], a[2]);
            case "steal": return land.steal(a[0], a[1], a[2]);
            case "inspect": return land.inspect(a[0]);
            case "black": return land.black(a[0], a[1], a[2]);
            case "farm": return land.farm(a[0], a[1], a[2]);
            case "deliver": return land.deliver(a[0], a[1]);
            case "failed": return land.failed(a[0]);
            case "month": return land.month();
            case "diet": return land.diet(a[0]);
            default: return land.sum(a[0]);
        }
    }

    private long modelAnswers(String name, int[] a) {
        switch (name) {
            case "ration": return model.ration(a[0], a[1]);
            case "onPoints": return model.onPoints(a[0], a[1]);
            case "free": return model.free(a[0]);
            case "energy": return model.energy(a[0], a[1]);
            case "points": return model.points(a[0], a[1]);
            case "goodIs": return model.goodIs(a[0], a[1]);
            case "person": return model.person(a[0], a[1]);
            case "becomes": return model.becomes(a[0], a[1]);
            case "moves": return model.moves(a[0], a[1]);
            case "give": return model.give(a[0], a[1], a[2]);
            case "stealBook": return model.stealBook(a[0]);
            case "personIs": return model.personIs(a[0], a[1]);
            case "left": case "leftAnew": return model.left(a[0], a[1]);
            case "depot": return model.depot(a[0]);
            case "shop": return model.shop(a[0]);
            case "ship": return model.ship(a[0], a[1], a[2]);
            case "lose": return model.lose(a[0], a[1], a[2]);
            case "depotHas": return model.depotHas(a[0], a[1]);
            case "buy": return model.buy(a[0], a[1], a[2], a[3]);
            default: return modelAnswersElse(name, a);
        }
    }

    private long modelAnswersElse(String name, int[] a) {
        switch (name) {
            case "claim": return model.claim(a[0], a[1], a[2]);
            case "advance": return model.advance(a[0], a[1], a[2]);
            case "settle": return model.settle(a[0], a[1]);
            case "lacks": return model.lacks(a[0], a[1], a[2], a[3]);
            case "shopIs": return model.shopIs(a[0], a[1], a[2]);
            case "forge": return model.forge(a[0], a[1], a[2]);
            case "steal": return model.steal(a[0], a[1], a[2]);
            case "inspect": return model.inspect(a[0]);
            case "black": return model.black(a[0], a[1], a[2]);
            case "farm": return model.farm(a[0], a[1], a[2]);
            case "deliver": return model.deliver(a[0], a[1]);
            case "failed": return model.failed(a[0]);
            case "month": return model.month();
            case "diet": return model.diet(a[0]);
            default: return model.sum(a[0]);
        }
    }

    private long landOrRefusal(String name, int[] arguments) {
        int[] answer = new int[1];
        int thrown = Check.thrownBy(() -> {
            answer[0] = landAnswers(name, arguments);
            return answer[0];
        });
        return thrown == 0 ? answer[0] : Model.REFUSED + thrown;
    }

    private void call(int run, String name, int[] arguments, int[] answered) {
        long want = modelAnswers(name, arguments);
        long got = landOrRefusal(name, arguments);
        Check.due("run " + run + ": " + name + Arrays.toString(arguments), got, want);
        answered[(int) Math.max(0, want - Model.REFUSED)]++;
    }

    /** Most runs begin with places and people, so that there is something to do. */
    private int begin(int run, int[] answered) {
        if (run % 10 == 0) {
            return 0;
        }
        int[][] calls = {{14, -1}, {14, 0}, {15, 1}, {15, 0}, {6, 1, 0}, {6, 0, 0}, {6, 2, 1}, {6, 3, 1}, {1, 1, 3},
            {0, 0, 500}, {2, 2}, {3, 0, 300}, {3, 1, 400}, {16, 0, 0, 20000}, {16, 0, 1, 20000}, {16, 1, 2, 9000},
            {21, 0, 0, 4000}, {21, 1, 0, 3000}, {21, 0, 1, 4000}, {21, 1, 1, 2000}, {21, 0, 2, 5000}};
        for (int[] call : calls) {
            call(run, NAMES[call[0]], Arrays.copyOfRange(call, 1, call.length), answered);
        }
        return calls.length;
    }

    public static void main(String[] args) {
        int[][] answered = new int[NAMES.length][4];
        for (int run = 0; run < RUNS; run++) {
            RandomRunsTest test = new RandomRunsTest(run);
            for (int i = test.begin(run, new int[4]); i < CALLS; i++) {
                int call = test.draw();
                test.call(run, NAMES[call], test.arguments(NAMES[call]), answered[call]);
            }
        }
        for (int call = 0; call < NAMES.length; call++) {
            Check.due(NAMES[call] + " is answered seldom", answered[call][0] > 100 ? 1 : 0, 1);
            if (args.length > 0) {
                System.out.println(NAMES[call] + " " + Arrays.toString(answered[call]));
            }
        }
        Check.end();
    }
}
