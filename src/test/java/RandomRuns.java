import java.util.Arrays;
import java.util.Random;

/** Long runs of calls, each answer of which is compared with that of the Model; always the same runs. */
final class RandomRuns {
    private static final int RUNS = 1200;
    private static final int CALLS = 512;
    private static final int[] EXTREMES = {-1, Integer.MIN_VALUE, Integer.MAX_VALUE, -2, 100, 1 << 30};
    private static final String[] CALLS_OF_A_RUN = {
        "item", "item", "item", "item", "item", "machine", "keyer", "read", "read", "read", "readAll", "key", "key",
        "key", "end", "end", "design", "run", "run", "run", "run", "runAll", "control", "control", "stub", "stub",
        "present", "present", "knock", "ofItem", "line", "ofEnd", "code", "ofPile", "inPile", "inPile", "ofBatch",
        "hunt", "hunt", "hunt", "ofStub", "house", "check", "blind", "would", "fewest", "isSound", "digest"};

    private final Tests tests;
    private Random random;
    private Caller program;
    private Caller model;
    private int[] banks;
    private int[] accounts;
    private int[] amounts;
    private int oddness;

    RandomRuns(Tests tests) {
        this.tests = tests;
    }

    void all() {
        for (int run = 0; run < RUNS; run++) {
            tests.same("random run " + run, oneRun(run), "as the model");
        }
    }

    /** Tells the first answer that is another one than the model's. */
    private String oneRun(int run) {
        random = new Random(run);
        program = new Caller(new Sortpocket());
        model = new Caller(new Model());
        banks = pool(2 + random.nextInt(10), 100);
        accounts = pool(1 + random.nextInt(4), 10000);
        amounts = pool(2 + random.nextInt(6), 100000);
        oddness = new int[] {0, 10, 60}[random.nextInt(3)];
        int calls = random.nextInt(4) == 0 ? random.nextInt(60) : CALLS;
        for (int call = 0; call < calls; call++) {
            String name = CALLS_OF_A_RUN[random.nextInt(CALLS_OF_A_RUN.length)];
            if (name.equals("design") && random.nextInt(4) != 0) {
                name = "run";
            }
            Object[] args = spoil(argumentsOf(name));
            String got = program.call(name, args);
            String want = model.call(name, args);
            if (!got.equals(want)) {
                return "call " + call + ", " + name + Arrays.toString(args) + " answered " + got + ", not " + want;
            }
        }
        return program.view().equals(model.view()) ? "as the model" : "another view at the end";
    }

    private int[] pool(int size, int bound) {
        int[] pool = new int[size];
        for (int k = 0; k < size; k++) {
            pool[k] = random.nextInt(8) == 0 ? bound - 1 : random.nextInt(8) == 0 ? random.nextInt(12) : random.nextInt(bound);
        }
        return pool;
    }

    private int of(int[] pool) {
        return pool[random.nextInt(pool.length)];
    }

    private Object[] spoil(Object[] args) {
        for (int k = 0; k < args.length; k++) {
            if (args[k] instanceof Integer && random.nextInt(1000) < oddness) {
                args[k] = random.nextBoolean() ? EXTREMES[random.nextInt(EXTREMES.length)] : (Integer) args[k] + 20;
            }
        }
        return args;
    }

    private int count(int what) {
        return Integer.parseInt(model.call("house", what));
    }

    /** A number of one of so many; seldom the one behind them. */
    private int one(int count) {
        return count == 0 || random.nextInt(60) == 0 ? count : random.nextInt(count);
    }

    /** An ITEM in a state, if there is one. */
    private int inState(int state) {
        int items = count(0);
        int from = random.nextInt(40);
        for (int k = 0; k < items && random.nextInt(30) != 0; k++) {
            int item = (from + k) % items;
            if (model.call("ofItem", item, 5).equals(String.valueOf(state))) {
                return item;
            }
        }
        return one(items);
    }

    private int smudged() {
        switch (random.nextInt(6)) {
            case 0: return 1 << random.nextInt(12);
            case 1: return 1 << random.nextInt(12) | 1 << random.nextInt(12);
            case 2: return random.nextInt(4096);
            default: return 0;
        }
    }

    /** A CONTROL from which a BATCH differs by what is interesting for one of its ITEMS. */
    private int control(int batch) {
        if (random.nextInt(5) == 0) {
            return random.nextInt(10000000);
        }
        int sum = Integer.parseInt(model.call("ofBatch", batch, 0)) - Integer.parseInt(model.call("ofBatch", batch, 1));
        int amount = amounts[random.nextInt(amounts.length)];
        int unit = new int[] {1, 10, 100, 1000}[random.nextInt(4)];
        int turned = (amount / unit % 10 - amount / unit / 10 % 10) * 9 * unit;
        int digit = (random.nextInt(19) - 9) * unit * (random.nextInt(3) == 0 ? 10 : 1);
        int[] differences = {0, -amount, amount, 2 * amount, -2 * amount, turned, turned, -turned, digit, digit};
        return Math.max(0, sum + differences[random.nextInt(differences.length)]);
    }

    private Object[] argumentsOf(String name) {
        int batch = random.nextInt(3) == 0 ? random.nextInt(8) : random.nextInt(2);
        switch (name) {
            case "item": return row(of(banks), of(accounts), Math.max(1, of(amounts)), batch, smudged());
            case "machine": return row(random.nextInt(21) * random.nextInt(2), random.nextInt(21) * random.nextInt(2));
            case "keyer": return row(random.nextInt(2), random.nextBoolean() ? 99 : 2 + random.nextInt(30));
            case "read": return row(inState(0));
            case "key": return row(inState(2));
            case "end": return row(of(banks));
            case "design": return row(2 + random.nextInt(5), random.nextBoolean() ? 2 + random.nextInt(4) : 2 + random.nextInt(39));
            case "run": return row(one(count(11)));
            case "control": return row(batch, control(batch));
            case "stub": return row(of(accounts), Math.max(1, of(amounts)));
            case "present": return row(inState(random.nextBoolean() ? 1 : 3));
            case "ofItem": return row(one(count(0)), random.nextInt(14));
            case "line": return new Object[] {one(count(0)), random.nextBoolean()};
            case "ofEnd": return row(one(count(9) + 1), random.nextInt(3));
            case "code": return row(one(count(9) + 1));
            case "ofPile": return row(one(count(11)), random.nextInt(5));
            case "inPile": return row(one(count(11)), random.nextInt(6));
            case "ofBatch": return row(batch, random.nextInt(5));
            case "hunt": return row(batch, random.nextInt(4), random.nextInt(3) * random.nextInt(3));
            case "ofStub": return row(one(count(16)), random.nextInt(3));
            case "house": return row(random.nextInt(19));
            case "check": return row(random.nextInt(100), random.nextInt(10000), random.nextInt(100000));
            case "blind": return row(one(count(0)));
            case "would": return new Object[] {2 + random.nextInt(5), random.nextBoolean()};
            case "fewest": return row(random.nextInt(130));
            default: return new Object[0];
        }
    }

    private static Object[] row(Object... args) {
        return args;
    }
}
