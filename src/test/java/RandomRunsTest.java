import java.util.Random;

/** All promises: runs of calls drawn with fixed seeds, the program's answers held against those of DeskModel. */
public final class RandomRunsTest {
    private static final int RUNS = 600;
    private static final int CALLS = 512;
    private static final int METHODS = 18;
    /** How often a method is drawn, by its promise's number less 2; the deeds that fill the desk come first. */
    private static final int[] FILLING = {6, 6, 5, 6, 14, 14, 1, 1, 2, 2, 2, 2, 2, 2, 2, 3, 1};
    private static final int[] ASKING = {2, 3, 1, 4, 2, 10, 1, 1, 8, 8, 4, 6, 6, 6, 6, 6, 1};

    private final Random random;
    private final ReinsuranceDesk desk = new ReinsuranceDesk();
    private final DeskModel model = new DeskModel();
    private final int greatest;
    private final int hours;
    private final int events;
    private final int years;
    private final int fillingCalls;
    private final boolean wild;

    private RandomRunsTest(long seed) {
        random = new Random(seed);
        greatest = new int[] {20, 1000, 1_000_000, 1_000_000_000}[random.nextInt(4)];
        hours = new int[] {3, 150, 400, 100_000}[random.nextInt(4)];
        events = 1 + random.nextInt(9);
        years = 1 + random.nextInt(4);
        fillingCalls = 50 + random.nextInt(300);
        wild = random.nextInt(10) == 0;
    }

    public static void main(String[] args) {
        for (int run = 0; run < RUNS; run++) {
            new RandomRunsTest(run).play(run);
        }
        Check.end();
    }

    private void play(int run) {
        for (int call = 0; call < CALLS; call++) {
            int[] weights = call < fillingCalls ? FILLING : ASKING;
            int method = draw(weights);
            int[] n = arguments(method);
            String name = "run " + run + ", call " + call + ": " + method + java.util.Arrays.toString(n);
            Check.same(name, outcome(() -> ofModel(method, n)), outcome(() -> ofDesk(method, n)));
        }
    }

    private static String outcome(Check.Answer answer) {
        try {
            return Long.toString(answer.give());
        } catch (RuntimeException e) {
            return e.getClass().getName();
        }
    }

    private int draw(int[] weights) {
        int together = 0;
        for (int weight : weights) {
            together += weight;
        }
        int drawn = random.nextInt(together);
        int method = 0;
        while (drawn >= weights[method]) {
            drawn -= weights[method];
            method++;
        }
        return method + 2;
    }

    private int[] arguments(int method) {
        int[] n = ordinary(method);
        if (wild || random.nextInt(25) == 0) {
            int[] odd = {-1, 0, 1, 4, 6, 10, 12, 40, 1_000_000, 1_000_001, 100_000, 100_001, 1_000_000_000,
                1_000_000_001, Integer.MIN_VALUE, Integer.MAX_VALUE};
            n[random.nextInt(n.length)] = odd[random.nextInt(odd.length)];
        }
        return n;
    }

    private int[] ordinary(int method) {
        switch (method) {
            case 2: return new int[] {random.nextInt(12), amount(), random.nextInt(years)};
            case 3: return new int[] {random.nextInt(12), amount()};
            case 4: return terms();
            case 5: return new int[] {aTreaty(), random.nextInt(6), random.nextInt(3) == 0 ? 0 : random.nextInt(400_001)};
            case 6: return new int[] {random.nextInt(12), random.nextInt(events + 1), random.nextInt(hours)};
            case 7: return new int[] {aClaim(), amount()};
            case 8: return new int[] {aClaim()};
            case 9: return new int[] {1 + random.nextInt(events), random.nextInt(years)};
            case 10: return new int[] {aClaim()};
            case 11: return new int[] {aClaim(), aTreaty()};
            case 12: return new int[] {aTreaty()};
            case 13: return new int[] {aTreaty(), 1 + random.nextInt(events)};
            case 14: return new int[] {aTreaty(), random.nextInt(4)};
            case 15: return new int[] {aTreaty(), random.nextInt(6), random.nextInt(2)};
            case 16: return new int[] {aClaim(), amount(), aTreaty()};
            case 17: return new int[] {random.nextInt(6)};
            default: return new int[] {random.nextInt(4), random.nextInt(3) == 0 ? 0 : 1};
        }
    }

    private int aClaim() {
        return random.nextInt(random.nextInt(3) == 0 ? 41 : 20);
    }

    private int aTreaty() {
        return random.nextInt(random.nextInt(8) == 0 ? 11 : 8);
    }

    private int amount() {
        switch (random.nextInt(8)) {
            case 0: return greatest;
            case 1: return random.nextInt(greatest / 10 + 1);
            case 2: return greatest / 2;
            default: return random.nextInt(greatest) + 1;
        }
    }

    private int[] terms() {
        int kind = random.nextInt(5);
        int shape = 10 * kind + random.nextInt(years);
        int low = random.nextInt(greatest / 5 + 1);
        switch (kind) {
            case 0: return new int[] {shape, 1 + random.nextInt(600_000), amount(), 0, 0};
            case 1: return new int[] {shape, low + 1, 1 + random.nextInt(20), 0, 0};
            case 4: return new int[] {shape, low, amount(), 0, 0};
            default: return new int[] {shape, low, amount(), random.nextInt(6), random.nextBoolean() ? 0 : low};
        }
    }

    private long ofDesk(int method, int[] n) {
        switch (method) {
            case 2: desk.risk(n[0], n[1], n[2]); return 0;
            case 3: desk.premium(n[0], n[1]); return 0;
            case 4: return desk.treaty(n[0], n[1], n[2], n[3], n[4]);
            case 5: desk.share(n[0], n[1], n[2]); return 0;
            case 6: return desk.claim(n[0], n[1], n[2]);
            case 7: desk.estimate(n[0], n[1]); return 0;
            case 8: desk.strike(n[0]); return 0;
            case 9: return desk.dissolve(n[0], n[1]);
            case 10: return desk.kept(n[0]);
            case 11: return desk.ceded(n[0], n[1]);
            case 12: return desk.left(n[0]);
            case 13: return desk.window(n[0], n[1]);
            case 14: return desk.total(n[0], n[1]);
            case 15: return desk.due(n[0], n[1], n[2]);
            case 16: return desk.whatIf(n[0], n[1], n[2]);
            case 17: return desk.bill(n[0]);
            case METHODS: desk.year(n[0], n[1] != 0); return 0;
            default: throw new AssertionError();
        }
    }

    private long ofModel(int method, int[] n) {
        switch (method) {
            case 2: model.risk(n[0], n[1], n[2]); return 0;
            case 3: model.premium(n[0], n[1]); return 0;
            case 4: return model.treaty(n[0], n[1], n[2], n[3], n[4]);
            case 5: model.share(n[0], n[1], n[2]); return 0;
            case 6: return model.claim(n[0], n[1], n[2]);
            case 7: model.estimate(n[0], n[1]); return 0;
            case 8: model.strike(n[0]); return 0;
            case 9: return model.dissolve(n[0], n[1]);
            case 10: return model.kept(n[0]);
            case 11: return model.ceded(n[0], n[1]);
            case 12: return model.left(n[0]);
            case 13: return model.window(n[0], n[1]);
            case 14: return model.total(n[0], n[1]);
            case 15: return model.due(n[0], n[1], n[2]);
            case 16: return model.whatIf(n[0], n[1], n[2]);
            case 17: return model.bill(n[0]);
            case METHODS: model.year(n[0], n[1] != 0); return 0;
            default: throw new AssertionError();
        }
    }
}
