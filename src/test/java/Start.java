/** Objects that several tests begin with. */
final class Start {
    /** The worth from which chargeFor is charged. */
    static final int WORTH = 95238;

    private Start() {
    }

    /** An object without contracts on a day, with the prices of the day 0. */
    static UnitContracts onDay(int day) {
        UnitContracts x = new UnitContracts();
        passTo(x, day);
        return x;
    }

    private static void passTo(UnitContracts x, int day) {
        for (int left = day - x.today(); left > 0; left -= 400) {
            x.pass(Math.min(left, 400));
        }
    }

    /** The first charge of a contract with 95238 units, which are worth as many cents. */
    static long chargeFor(int sum, int rate) {
        UnitContracts x = new UnitContracts();
        x.make(100000, sum, rate, 0);
        x.backdate(0, 0);
        x.pass(30);
        return x.charged();
    }

    /**
     * On the day 31: the contracts 0 and 2 are in force with units of several funds and initial ones, the
     * contract 1 has lapsed, three orders wait, and something was charged and made good.
     */
    static UnitContracts busy() {
        UnitContracts x = new UnitContracts();
        x.make(100000, 1000000, 1000, 0);
        x.make(100, 0, 0, 1);
        x.make(50000, 200000, 300, 2);
        x.tell(500, 2000, 1000);
        x.backdate(0, 0);
        x.backdate(0, 1);
        x.backdate(2, 0);
        x.pay(0);
        x.pay(2);
        x.pass(29);
        x.tell(700, 1500, 3000);
        x.backdate(2, 0);
        x.change(0, 0, 1, 40);
        x.pay(2);
        x.change(2, 2, 0, 25);
        return x;
    }

    /** Ten contracts in force with units, on the day 2, and an order of each. */
    static UnitContracts ten() {
        UnitContracts x = new UnitContracts();
        x.tell(900, 1100, 1300);
        for (int i = 0; i < 10; i++) {
            x.make(10000 + i, 1000 * i, 100 * i, i % 3);
            x.backdate(i, 0);
        }
        x.pass(1);
        for (int i = 0; i < 10; i++) {
            x.pay(i);
        }
        return x;
    }

    /** On the last day: the contract 0 is in force and two of its orders wait, the contract 1 has lapsed. */
    static UnitContracts lastDay() {
        return lateContracts(2000);
    }

    /** On the day before the last one, as lastDay is on the last one. */
    static UnitContracts dayBeforeLast() {
        return lateContracts(1999);
    }

    private static UnitContracts lateContracts(int day) {
        UnitContracts x = new UnitContracts();
        x.make(100000, 100000, 10, 1);
        x.make(100, 0, 0, 0);
        x.backdate(0, 0);
        passTo(x, day);
        x.pay(0);
        x.change(0, 1, 2, 10);
        return x;
    }
}
