import java.math.BigInteger;
import java.util.ArrayList;
import java.util.Arrays;
import java.util.List;

/**
 * The document told a second time, with numbers that have no bounds, so that a rounding or an overflow
 * of the class is seen. Calls go by name, and answers are texts.
 */
final class Model {
    private static final BigInteger LIMIT = big(1000000000000L);

    private static final class Holder {
        int premium;
        int sum;
        int rate;
        int fund;
        int paid;
        boolean inForce = true;
        BigInteger initial = BigInteger.ZERO;
        BigInteger[] units = {BigInteger.ZERO, BigInteger.ZERO, BigInteger.ZERO};

        void grow(int into, BigInteger more) {
            units[into] = units[into].add(more).min(LIMIT);
        }
    }

    private final List<int[]> bids = new ArrayList<>();
    private final List<Holder> holders = new ArrayList<>();
    private final List<int[]> orders = new ArrayList<>();
    private BigInteger charged = BigInteger.ZERO;
    private BigInteger madeGood = BigInteger.ZERO;

    Model() {
        bids.add(new int[] {1000, 1000, 1000});
    }

    private static BigInteger big(long value) {
        return BigInteger.valueOf(value);
    }

    private int today() {
        return bids.size() - 1;
    }

    private static BigInteger money(BigInteger units, long price) {
        return units.multiply(big(price)).divide(big(1000));
    }

    private static BigInteger bought(BigInteger money, long price) {
        return money.multiply(big(1000)).divide(big(price));
    }

    private int bid(int fund) {
        return bids.get(today())[fund];
    }

    private int offer(int fund, int day) {
        return bids.get(day)[fund] * 105 / 100;
    }

    private static boolean within(int value, int least, int most) {
        return least <= value && value <= most;
    }

    /** Answers a call of the face: its answer, or the simple name of what it throws. */
    String answer(String name, int... given) {
        switch (name) {
            case "tell": return tell(given);
            case "pass": return pass(given[0]);
            case "today": return "" + today();
            case "offer": return within(given[0], 0, 2) && within(given[1], 0, today())
                ? "" + offer(given[0], given[1]) : "IllegalArgumentException";
            case "make": return make(given);
            case "contracts": return "" + holders.size();
            case "waiting": return "" + orders.size();
            case "fundUnits": return within(given[0], 0, 2) ? "" + fundUnits(given[0]) : "IllegalArgumentException";
            case "charged": return "" + charged;
            case "madeGood": return "" + madeGood;
            default: break;
        }
        if (!within(given[0], 0, holders.size() - 1)) {
            return "IndexOutOfBoundsException";
        }
        Holder holder = holders.get(given[0]);
        switch (name) {
            case "pay": return order(holder, new int[] {given[0]});
            case "change": return change(holder, given);
            case "backdate": return backdate(holder, given[1]);
            case "isInForce": return "" + holder.inForce;
            case "units": return within(given[1], 0, 2) ? "" + holder.units[given[1]] : "IllegalArgumentException";
            case "initial": return "" + holder.initial;
            case "worth": return "" + worth(holder);
            case "paid": return "" + holder.paid;
            default: throw new IllegalArgumentException(name);
        }
    }

    private String tell(int[] given) {
        for (int price : given) {
            if (!within(price, 1, 100000)) {
                return "IllegalArgumentException";
            }
        }
        return today() == 2000 ? "IllegalStateException" : "" + begin(given);
    }

    private String pass(int days) {
        if (!within(days, 1, 400)) {
            return "IllegalArgumentException";
        }
        if (today() + days > 2000) {
            return "IllegalStateException";
        }
        int lapsed = 0;
        for (int day = 1; day <= days; day++) {
            lapsed += begin(bids.get(today()));
        }
        return "" + lapsed;
    }

    private String make(int[] given) {
        if (!within(given[0], 100, 100000) || !within(given[1], 0, 1000000)
            || !within(given[2], 0, 1000) || !within(given[3], 0, 2)) {
            return "IllegalArgumentException";
        }
        if (holders.size() == 10) {
            return "IllegalStateException";
        }
        Holder holder = new Holder();
        holder.premium = given[0];
        holder.sum = given[1];
        holder.rate = given[2];
        holder.fund = given[3];
        holders.add(holder);
        return "" + (holders.size() - 1);
    }

    private String order(Holder holder, int[] order) {
        if (!holder.inForce) {
            return "IllegalStateException";
        }
        orders.add(order);
        return "" + orders.size();
    }

    private String change(Holder holder, int[] given) {
        if (!within(given[1], 0, 2) || !within(given[2], 0, 2) || !within(given[3], 1, 100) || given[1] == given[2]) {
            return "IllegalArgumentException";
        }
        return order(holder, given.clone());
    }

    private String backdate(Holder holder, int day) {
        if (!within(day, 0, today())) {
            return "IllegalArgumentException";
        }
        if (!holder.inForce) {
            return "IllegalStateException";
        }
        BigInteger more = bought(big(holder.premium), offer(holder.fund, day));
        holder.grow(holder.fund, more);
        BigInteger loss = money(more, offer(holder.fund, today())).subtract(big(holder.premium));
        madeGood = madeGood.add(loss.max(BigInteger.ZERO));
        return "" + more;
    }

    private BigInteger fundUnits(int fund) {
        BigInteger all = BigInteger.ZERO;
        for (Holder holder : holders) {
            all = all.add(holder.units[fund]);
            if (holder.fund == fund) {
                all = all.add(holder.initial);
            }
        }
        return all;
    }

    private BigInteger worth(Holder holder) {
        BigInteger all = money(holder.initial, bid(holder.fund));
        for (int fund = 0; fund < 3; fund++) {
            all = all.add(money(holder.units[fund], bid(fund)));
        }
        return all;
    }

    private int begin(int[] prices) {
        bids.add(prices.clone());
        for (int[] order : orders) {
            Holder holder = holders.get(order[0]);
            if (order.length == 1) {
                premium(holder);
            } else {
                exchange(holder, order[1], order[2], order[3]);
            }
        }
        orders.clear();
        int lapsed = 0;
        if (today() % 30 == 0) {
            for (Holder holder : holders) {
                if (holder.inForce) {
                    month(holder);
                    lapsed += holder.inForce ? 0 : 1;
                }
            }
        }
        return lapsed;
    }

    private void premium(Holder holder) {
        BigInteger more = bought(big(holder.premium), offer(holder.fund, today()));
        holder.paid++;
        if (holder.paid <= 12) {
            holder.initial = holder.initial.add(more);
        } else {
            holder.grow(holder.fund, more);
        }
    }

    private void exchange(Holder holder, int from, int to, int percent) {
        BigInteger sold = holder.units[from].multiply(big(percent)).divide(big(100));
        holder.units[from] = holder.units[from].subtract(sold);
        holder.grow(to, bought(money(sold, bid(from)), bid(to)));
    }

    private void month(Holder holder) {
        holder.initial = holder.initial.multiply(big(99)).divide(big(100));
        if (today() >= 720) {
            holder.grow(holder.fund, holder.initial.multiply(big(9)).divide(big(10)));
            holder.initial = BigInteger.ZERO;
        }
        BigInteger risk = big(holder.sum).subtract(worth(holder)).max(BigInteger.ZERO);
        BigInteger rest = risk.multiply(big(holder.rate)).divide(big(100000)).add(big(200));
        for (int fund = 0; fund < 3; fund++) {
            BigInteger[] parts = rest.multiply(big(1000)).divideAndRemainder(big(bid(fund)));
            BigInteger taken = parts[0].add(big(parts[1].signum())).min(holder.units[fund]);
            BigInteger got = money(taken, bid(fund)).min(rest);
            holder.units[fund] = holder.units[fund].subtract(taken);
            charged = charged.add(got);
            rest = rest.subtract(got);
        }
        if (rest.signum() > 0) {
            holder.inForce = false;
            holder.initial = BigInteger.ZERO;
            Arrays.fill(holder.units, BigInteger.ZERO);
        }
    }
}
