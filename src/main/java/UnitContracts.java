import java.util.ArrayList;

/**
 * An engine for unit-linked contracts: funds with two prices, premiums that buy units with a lag,
 * initial units that are exchanged later, charges that are taken in units, cover charged by what is
 * at risk, switches, premium holidays, and deals that should have been made earlier.
 *
 * Money is in whole cents, units are in thousandths of a unit, a price is in cents for a unit.
 */
public final class UnitContracts {

    private static final int FUNDS = 3;
    private static final int LAST_DAY = 2000;
    private static final int MOST_DAYS_PASSED = 400;

    private static final int FIRST_BID = 1000;
    private static final int LEAST_BID = 1;
    private static final int MOST_BID = 100000;

    private static final int MOST_CONTRACTS = 10;
    private static final int LEAST_PREMIUM = 100;
    private static final int MOST_PREMIUM = 100000;
    private static final int MOST_SUM = 1000000;
    private static final int MOST_RATE = 1000;

    // An object is promised for 512 calls, so no run that counts can have more orders waiting.
    private static final int MOST_ORDERS = 512;

    private static final int UNIT = 1000;
    private static final long MOST_UNITS = 1000000000000L;
    private static final int INITIAL_PREMIUMS = 12;

    private static final int CHARGE_DAYS = 30;
    private static final int EXCHANGE_DAY = 720;
    private static final int FIXED_CHARGE = 200;
    private static final int RATE_PARTS = 100000;

    private final Prices prices;
    private final ArrayList<Contract> made;
    private final ArrayList<Order> orders;
    private long chargedMoney;
    private long goodMoney;

    /** Prices of the day 0, no contracts. */
    public UnitContracts() {
        prices = new Prices();
        made = new ArrayList<>();
        orders = new ArrayList<>();
    }

    // ---- prices

    /** Tells the next day with its bid prices; returns how many contracts lapse. */
    public int tell(int first, int second, int third)
            throws IllegalArgumentException, IllegalStateException {
        if (!isBid(first) || !isBid(second) || !isBid(third)) {
            throw new IllegalArgumentException("a price is out of range");
        }
        if (prices.latestDay() >= LAST_DAY) {
            throw new IllegalStateException("no day is left");
        }
        return beginDay(first, second, third);
    }

    /** Lets days go by with the prices of today; returns how many contracts lapse. */
    public int pass(int days) throws IllegalArgumentException, IllegalStateException {
        if (days < 1 || days > MOST_DAYS_PASSED) {
            throw new IllegalArgumentException("days is out of range");
        }
        if (prices.latestDay() + days > LAST_DAY) {
            throw new IllegalStateException("so many days are not left");
        }
        int lapsed = 0;
        for (int i = 0; i < days; i++) {
            lapsed += beginDay(prices.bidNow(0), prices.bidNow(1), prices.bidNow(2));
        }
        return lapsed;
    }

    /** Returns today. */
    public int today() {
        return prices.latestDay();
    }

    /** Returns the offer price of a fund on a day. */
    public int offer(int fund, int day) throws IllegalArgumentException {
        requireFund(fund);
        requireDay(day);
        return prices.offerOn(fund, day);
    }

    // ---- contracts

    /** Makes a contract; returns its number. */
    public int make(int premium, int sum, int rate, int fund)
            throws IllegalArgumentException, IllegalStateException {
        if (premium < LEAST_PREMIUM || premium > MOST_PREMIUM) {
            throw new IllegalArgumentException("premium is out of range");
        }
        if (sum < 0 || sum > MOST_SUM) {
            throw new IllegalArgumentException("sum is out of range");
        }
        if (rate < 0 || rate > MOST_RATE) {
            throw new IllegalArgumentException("rate is out of range");
        }
        requireFund(fund);
        if (made.size() >= MOST_CONTRACTS) {
            throw new IllegalStateException("there are 10 contracts");
        }
        made.add(new Contract(premium, sum, rate, fund));
        return made.size() - 1;
    }

    /** Orders a premium; returns how many orders of all contracts wait. */
    public int pay(int contract) throws IndexOutOfBoundsException, IllegalStateException {
        Contract found = find(contract);
        requireInForce(found);
        return giveOrder(new PremiumOrder(found));
    }

    /** Orders a switch; returns how many orders of all contracts wait. */
    public int change(int contract, int from, int to, int percent)
            throws IndexOutOfBoundsException, IllegalArgumentException, IllegalStateException {
        Contract found = find(contract);
        requireFund(from);
        requireFund(to);
        if (from == to) {
            throw new IllegalArgumentException("both funds are the same");
        }
        if (percent < 1 || percent > 100) {
            throw new IllegalArgumentException("percent is out of range");
        }
        requireInForce(found);
        return giveOrder(new SwitchOrder(found, from, to, percent));
    }

    /** Backdates a premium; returns how many thousandths of a unit are bought. */
    public int backdate(int contract, int day)
            throws IndexOutOfBoundsException, IllegalArgumentException, IllegalStateException {
        Contract found = find(contract);
        requireDay(day);
        requireInForce(found);
        int fund = found.premiumFund();
        long bought = unitsFor(found.premiumMoney(), prices.offerOn(fund, day));
        found.addUnits(fund, bought);
        long cost = moneyFor(bought, prices.offerNow(fund));
        goodMoney += Math.max(0L, cost - found.premiumMoney());
        return (int) bought;
    }

    /** Returns the number of contracts. */
    public int contracts() {
        return made.size();
    }

    /** Returns how many orders wait. */
    public int waiting() {
        return orders.size();
    }

    /** Tells whether a contract is in force. */
    public boolean isInForce(int contract) throws IndexOutOfBoundsException {
        return find(contract).isAlive();
    }

    /** Returns the accumulation units of a contract. */
    public long units(int contract, int fund)
            throws IndexOutOfBoundsException, IllegalArgumentException {
        Contract found = find(contract);
        requireFund(fund);
        return found.accumulatedIn(fund);
    }

    /** Returns the initial units of a contract. */
    public long initial(int contract) throws IndexOutOfBoundsException {
        return find(contract).initialLeft();
    }

    /** Returns the worth of a contract. */
    public long worth(int contract) throws IndexOutOfBoundsException {
        return find(contract).worthAt(prices);
    }

    /** Returns how many premiums of a contract have been made, backdated ones not counted. */
    public int paid(int contract) throws IndexOutOfBoundsException {
        return find(contract).premiumsMade();
    }

    // ---- the house

    /** Returns the units of a fund that all contracts have, initial ones included. */
    public long fundUnits(int fund) throws IllegalArgumentException {
        requireFund(fund);
        long sum = 0;
        for (int i = 0; i < made.size(); i++) {
            sum += made.get(i).allUnitsIn(fund);
        }
        return sum;
    }

    /** Returns all money that was got for charges. */
    public long charged() {
        return chargedMoney;
    }

    /** Returns all that the house has made good. */
    public long madeGood() {
        return goodMoney;
    }

    // What a call of the face asks first.

    private static boolean isFund(int fund) {
        return fund >= 0 && fund < FUNDS;
    }

    private static boolean isBid(int price) {
        return price >= LEAST_BID && price <= MOST_BID;
    }

    private static void requireFund(int fund) {
        if (!isFund(fund)) {
            throw new IllegalArgumentException("there is no such fund");
        }
    }

    private void requireDay(int day) {
        if (day < 0 || day > prices.latestDay()) {
            throw new IllegalArgumentException("the day is out of range");
        }
    }

    private static void requireInForce(Contract contract) {
        if (!contract.isAlive()) {
            throw new IllegalStateException("the contract has lapsed");
        }
    }

    private Contract find(int number) {
        if (number < 0 || number >= made.size()) {
            throw new IndexOutOfBoundsException("there is no such contract");
        }
        return made.get(number);
    }

    // What a day does.

    private int giveOrder(Order order) {
        if (orders.size() < MOST_ORDERS) {
            orders.add(order);
        }
        return orders.size();
    }

    private int beginDay(int first, int second, int third) {
        prices.addDay(first, second, third);
        for (int i = 0; i < orders.size(); i++) {
            orders.get(i).carryOut(prices);
        }
        orders.clear();
        return prices.latestDay() % CHARGE_DAYS == 0 ? chargeAll() : 0;
    }

    private int chargeAll() {
        int lapsed = 0;
        for (int i = 0; i < made.size(); i++) {
            Contract contract = made.get(i);
            if (contract.isAlive()) {
                contract.ageInitial(prices.latestDay());
                chargedMoney += contract.takeCharge(prices);
                lapsed += contract.isAlive() ? 0 : 1;
            }
        }
        return lapsed;
    }

    private static long moneyFor(long units, long price) {
        return units * price / UNIT;
    }

    private static long unitsFor(long money, long price) {
        return price < 1 ? 0 : money * UNIT / price;
    }

    /** The bid prices of all funds for each day from 0 to the latest one. */
    static final class Prices {
        private final int[] bids = new int[FUNDS * (LAST_DAY + 1)];
        private int latest;

        Prices() {
            for (int fund = 0; fund < FUNDS; fund++) {
                bids[fund] = FIRST_BID;
            }
        }

        int latestDay() {
            return latest;
        }

        void addDay(int first, int second, int third) {
            if (latest >= 0 && latest < LAST_DAY) {
                latest++;
                bids[latest * FUNDS] = first;
                bids[latest * FUNDS + 1] = second;
                bids[latest * FUNDS + 2] = third;
            }
        }

        int bidOn(int fund, int day) {
            return isFund(fund) && day >= 0 && day <= LAST_DAY ? bids[day * FUNDS + fund] : 0;
        }

        int bidNow(int fund) {
            return bidOn(fund, latest);
        }

        int offerOn(int fund, int day) {
            return bidOn(fund, day) * 105 / 100;
        }

        int offerNow(int fund) {
            return offerOn(fund, latest);
        }
    }

    /** A contract with its units. */
    static final class Contract {
        private final int premium;
        private final int sum;
        private final int rate;
        private final int fund;
        private final long[] accumulation = new long[FUNDS];
        private long initialUnits;
        private int premiums;
        private boolean alive = true;

        Contract(int premium, int sum, int rate, int fund) {
            this.premium = premium;
            this.sum = sum;
            this.rate = rate;
            this.fund = fund;
        }

        int premiumMoney() {
            return premium;
        }

        int premiumFund() {
            return fund;
        }

        int premiumsMade() {
            return premiums;
        }

        boolean isAlive() {
            return alive;
        }

        long initialLeft() {
            return initialUnits;
        }

        long accumulatedIn(int inFund) {
            return isFund(inFund) ? accumulation[inFund] : 0;
        }

        long allUnitsIn(int inFund) {
            return accumulatedIn(inFund) + (inFund == fund ? initialUnits : 0);
        }

        long worthAt(Prices prices) {
            long money = moneyFor(initialUnits, prices.bidNow(fund));
            for (int i = 0; i < accumulation.length; i++) {
                money += moneyFor(accumulation[i], prices.bidNow(i));
            }
            return money;
        }

        void addUnits(int toFund, long more) {
            if (isFund(toFund)) {
                accumulation[toFund] = Math.min(MOST_UNITS, accumulation[toFund] + more);
            }
        }

        void buyPremium(Prices prices) {
            long bought = unitsFor(premium, prices.offerNow(fund));
            if (premiums < INITIAL_PREMIUMS) {
                initialUnits += bought;
            } else {
                addUnits(fund, bought);
            }
            premiums++;
        }

        void switchUnits(Prices prices, int from, int to, int percent) {
            if (isFund(from)) {
                long sold = accumulation[from] * percent / 100;
                accumulation[from] -= sold;
                addUnits(to, unitsFor(moneyFor(sold, prices.bidNow(from)), prices.bidNow(to)));
            }
        }

        void ageInitial(int day) {
            initialUnits = initialUnits * 99 / 100;
            if (day >= EXCHANGE_DAY) {
                addUnits(fund, initialUnits * 9 / 10);
                initialUnits = 0;
            }
        }

        /** Takes the charge of today and returns the money got for it; lapses if some is left. */
        long takeCharge(Prices prices) {
            long atRisk = Math.max(0L, sum - worthAt(prices));
            long charge = FIXED_CHARGE + atRisk * rate / RATE_PARTS;
            long rest = charge;
            for (int i = 0; i < FUNDS; i++) {
                rest -= sellFor(rest, i, prices.bidNow(i));
            }
            if (rest > 0) {
                lapse();
            }
            return charge - rest;
        }

        private long sellFor(long rest, int fromFund, long price) {
            if (price < 1 || !isFund(fromFund)) {
                return 0;
            }
            long needed = (rest * UNIT + price - 1) / price;
            long taken = Math.min(needed, accumulation[fromFund]);
            accumulation[fromFund] -= taken;
            return Math.min(rest, moneyFor(taken, price));
        }

        private void lapse() {
            alive = false;
            initialUnits = 0;
            for (int i = 0; i < accumulation.length; i++) {
                accumulation[i] = 0;
            }
        }
    }

    /** What waits for the prices of the next day. */
    abstract static class Order {
        abstract void carryOut(Prices prices);
    }

    /** A premium that buys units. */
    static final class PremiumOrder extends Order {
        private final Contract contract;

        PremiumOrder(Contract contract) {
            this.contract = contract;
        }

        void carryOut(Prices prices) {
            contract.buyPremium(prices);
        }
    }

    /** A switch of a part of the accumulation units from a fund to another. */
    static final class SwitchOrder extends Order {
        private final Contract contract;
        private final int from;
        private final int to;
        private final int percent;

        SwitchOrder(Contract contract, int from, int to, int percent) {
            this.contract = contract;
            this.from = from;
            this.to = to;
            this.percent = percent;
        }

        void carryOut(Prices prices) {
            contract.switchUnits(prices, from, to, percent);
        }
    }
}
