import java.util.Arrays;
import java.util.Random;

/** All promises: runs of 512 calls, always the same ones, each answer compared with the model's. */
public final class ModelTest {
    private static final int RUNS = 1500;
    private static final int CALLS = 512;
    private static final String[] ASKING = {"today", "offer", "contracts", "waiting", "isInForce", "units",
        "initial", "worth", "paid", "fundUnits", "charged", "madeGood"};
    private static final int[] PRICES = {1, 1, 2, 19, 20, 333, 999, 1000, 1001, 3000, 99999, 100000, 100000};
    private static final int[] ODD = {-1, Integer.MIN_VALUE, Integer.MAX_VALUE, 2001, 10};

    private final Random random;
    private final int kind;
    private final UnitContracts x = new UnitContracts();
    private final Model model = new Model();

    private ModelTest(int seed) {
        random = new Random(seed);
        kind = seed % 4;
    }

    public static void main(String[] args) {
        for (int seed = 0; seed < RUNS; seed++) {
            new ModelTest(seed).run(seed);
        }
        Check.end();
    }

    private void run(int seed) {
        for (int i = 0; i < CALLS; i++) {
            String name = nextName(i);
            int[] given = nextArguments(name);
            String due = model.answer(name, given);
            String got = answer(name, given);
            if (!got.equals(due)) {
                Check.yes("run " + seed + ", call " + i + ": " + name + Arrays.toString(given)
                    + " answered " + got + ", due is " + due + ", which", false);
                return;
            }
        }
        Check.yes("run " + seed, true);
    }

    private int upTo(int most) {
        return random.nextInt(most + 1);
    }

    private boolean seldom(int odds) {
        return random.nextInt(odds) == 0;
    }

    private String nextName(int call) {
        if (call < 3 || seldom(60)) {
            return "make";
        }
        int pick = upTo(99);
        if (pick < 18) {
            return "pay";
        }
        if (pick < 32) {
            return "change";
        }
        if (pick < 46) {
            return "backdate";
        }
        if (pick < 56) {
            return "tell";
        }
        if (pick < 64) {
            return "pass";
        }
        return ASKING[upTo(ASKING.length - 1)];
    }

    private int[] nextArguments(String name) {
        int[] given = likely(name);
        if (given.length > 0 && seldom(25)) {
            given[upTo(given.length - 1)] = ODD[upTo(ODD.length - 1)];
        }
        return given;
    }

    private int[] likely(String name) {
        switch (name) {
            case "tell": return new int[] {price(), price(), price()};
            case "pass": return new int[] {seldom(10) ? upTo(401) : upTo(kind == 0 ? 60 : 30)};
            case "offer": return new int[] {upTo(2), upTo(x.today())};
            case "make": return new int[] {premium(), upTo(1000000) / (upTo(20) + 1), upTo(1000), upTo(2)};
            case "pay": case "isInForce": case "initial": case "worth": case "paid": return new int[] {contract()};
            case "change": return new int[] {contract(), upTo(2), upTo(2), seldom(3) ? 100 : upTo(101)};
            case "backdate": return new int[] {contract(), upTo(x.today() + (seldom(20) ? 1 : 0))};
            case "units": return new int[] {contract(), upTo(2)};
            case "fundUnits": return new int[] {upTo(2)};
            default: return new int[0];
        }
    }

    private int contract() {
        return upTo(x.contracts() - (seldom(20) ? 0 : 1));
    }

    private int premium() {
        return kind == 1 ? 100 + upTo(3000) : 20000 + upTo(80000);
    }

    private int price() {
        if (kind == 2) {
            return PRICES[upTo(PRICES.length - 1)];
        }
        return kind == 3 ? 1 + upTo(99999) : 800 + upTo(400);
    }

    private String answer(String name, int[] given) {
        try {
            switch (name) {
                case "tell": return "" + x.tell(given[0], given[1], given[2]);
                case "pass": return "" + x.pass(given[0]);
                case "today": return "" + x.today();
                case "offer": return "" + x.offer(given[0], given[1]);
                case "make": return "" + x.make(given[0], given[1], given[2], given[3]);
                case "pay": return "" + x.pay(given[0]);
                case "change": return "" + x.change(given[0], given[1], given[2], given[3]);
                case "backdate": return "" + x.backdate(given[0], given[1]);
                case "contracts": return "" + x.contracts();
                case "waiting": return "" + x.waiting();
                case "isInForce": return "" + x.isInForce(given[0]);
                case "units": return "" + x.units(given[0], given[1]);
                case "initial": return "" + x.initial(given[0]);
                case "worth": return "" + x.worth(given[0]);
                case "paid": return "" + x.paid(given[0]);
                case "fundUnits": return "" + x.fundUnits(given[0]);
                case "charged": return "" + x.charged();
                default: return "" + x.madeGood();
            }
        } catch (RuntimeException e) {
            return Check.isOwnThrow(e) ? e.getClass().getSimpleName() : "not by itself: " + e;
        }
    }
}
