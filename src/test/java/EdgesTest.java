/** The sentences of "Terms" that name a boundary: each has tests on both of its sides. */
public final class EdgesTest {
    private EdgesTest() {
    }

    public static void main(String[] args) {
        firstTwelvePremiums();
        firstTwelvePremiumsOverDays();
        firstTwelvePremiumsOfEachContract();
        firstTwelvePremiumsThatBuyNothing();
        nextDay();
        worthOfInitialUnitsByThemselves();
        worthFundByFund();
        multipleOf30ThatIsTold();
        multipleOf30ThatPasses();
        multipleOf30AfterTheOrders();
        multipleOf30ForContractsInForce();
        shrinkRoundsDown();
        day720OrLater();
        day720ForAPremiumOfThatDay();
        exchangeRoundsDown();
        riskAtLeast0();
        riskRoundsDown();
        asManyAsGiveTheRest();
        orAllIfThereAreFewer();
        atMostTheRest();
        atMostTheRestOfTheLastFund();
        somethingLeft();
        somethingLeftAfterThreeFunds();
        lapseTakesAllUnits();
        aboveZero();
        aboveZeroEachByItself();
        Check.end();
    }

    private static void payTimes(UnitContracts x, int contract, int times) {
        for (int i = 0; i < times; i++) {
            x.pay(contract);
        }
    }

    // "the first 12 premiums of a contract buy initial units, later ones accumulation units"
    private static void firstTwelvePremiums() {
        int[][] due = {{1, 100, 0}, {11, 1100, 0}, {12, 1200, 0}, {13, 1200, 100}, {14, 1200, 200}};
        for (int[] row : due) {
            UnitContracts x = new UnitContracts();
            x.make(105, 0, 0, 0);
            payTimes(x, 0, row[0]);
            x.pass(1);
            Check.same("initial of " + row[0] + " premiums", x.initial(0), row[1]);
            Check.same("units of " + row[0] + " premiums", x.units(0, 0), row[2]);
            Check.same("paid of " + row[0] + " premiums", x.paid(0), row[0]);
        }
    }

    private static void firstTwelvePremiumsOverDays() {
        UnitContracts x = new UnitContracts();
        x.make(105, 0, 0, 0);
        for (int i = 1; i <= 14; i++) {
            x.pay(0);
            x.pass(1);
            Check.same("initial after " + i, x.initial(0), 100 * Math.min(i, 12));
            Check.same("units after " + i, x.units(0, 0), 100 * Math.max(i - 12, 0));
        }
    }

    private static void firstTwelvePremiumsOfEachContract() {
        UnitContracts x = new UnitContracts();
        x.make(105, 0, 0, 0);
        x.make(210, 0, 0, 0);
        payTimes(x, 0, 12);
        payTimes(x, 1, 1);
        payTimes(x, 0, 1);
        payTimes(x, 1, 12);
        x.pass(1);
        Check.same("initial of the first", x.initial(0), 1200);
        Check.same("units of the first", x.units(0, 0), 100);
        Check.same("initial of the second", x.initial(1), 2400);
        Check.same("units of the second", x.units(1, 0), 200);
    }

    private static void firstTwelvePremiumsThatBuyNothing() {
        UnitContracts x = new UnitContracts();
        x.make(100, 0, 0, 0);
        payTimes(x, 0, 12);
        x.tell(100000, 1, 1);
        Check.same("100 cents buy nothing at 105000", x.initial(0), 0);
        Check.same("they are made", x.paid(0), 12);
        x.pay(0);
        x.tell(1, 1, 1);
        Check.same("initial", x.initial(0), 0);
        Check.same("units of the thirteenth", x.units(0, 0), 100000);
    }

    // "it is made on the next day, at the prices of that day"
    private static void nextDay() {
        UnitContracts x = new UnitContracts();
        x.make(1050, 0, 0, 0);
        x.pay(0);
        Check.same("not on its own day", x.paid(0), 0);
        x.tell(2000, 1, 1);
        Check.same("on the next day, at its price", x.initial(0), 500);
        x.pay(0);
        x.pass(3);
        Check.same("on the first of several days, once", x.initial(0), 1000);
        Check.same("paid", x.paid(0), 2);
    }

    // "fund by fund, initial units by themselves": what is less than a cent of a part is lost
    private static void worthOfInitialUnitsByThemselves() {
        int[][] due = {{1, 0}, {2, 2}, {3, 2}, {999, 998}, {1000, 1000}, {1001, 1000}};
        for (int[] row : due) {
            UnitContracts x = new UnitContracts();
            x.make(525, 0, 0, 0);
            x.backdate(0, 0);
            x.pay(0);
            x.pass(1);
            x.tell(row[0], 1, 1);
            Check.same("worth of 500 and 500 units at " + row[0], x.worth(0), row[1]);
        }
    }

    private static void worthFundByFund() {
        int[][] due = {{1, 1, 1, 0}, {2, 1, 1, 1}, {1, 2, 3, 2}, {3, 3, 3, 3}, {999, 999, 999, 1497},
            {1000, 1000, 1000, 1500}};
        for (int[] row : due) {
            UnitContracts x = new UnitContracts();
            x.make(525, 0, 0, 0);
            for (int to = 1; to <= 2; to++) {
                x.backdate(0, 0);
                x.change(0, 0, to, 100);
                x.pass(1);
            }
            x.backdate(0, 0);
            x.tell(row[0], row[1], row[2]);
            Check.same("worth of 500 units of each fund", x.worth(0), row[3]);
        }
    }

    /** A contract 0 made on the day 0 with 95238 units of the fund 0, without cover. */
    private static UnitContracts rich() {
        UnitContracts x = new UnitContracts();
        x.make(100000, 0, 0, 0);
        x.backdate(0, 0);
        return x;
    }

    // "if it is a multiple of 30"
    private static void multipleOf30ThatIsTold() {
        UnitContracts x = rich();
        Check.same("charged on the day 0", x.charged(), 0);
        for (int day = 1; day <= 61; day++) {
            x.tell(1000, 1000, 1000);
            int due = day < 30 ? 0 : day < 60 ? 200 : 400;
            Check.same("charged up to the day " + day, x.charged(), due);
        }
    }

    private static void multipleOf30ThatPasses() {
        int[][] due = {{1, 0}, {29, 0}, {30, 200}, {31, 200}, {59, 200}, {60, 400}, {61, 400}, {389, 2400},
            {390, 2600}, {400, 2600}};
        for (int[] row : due) {
            UnitContracts x = rich();
            x.pass(row[0]);
            Check.same("charged after pass(" + row[0] + ")", x.charged(), row[1]);
        }
        UnitContracts y = rich();
        y.pass(29);
        y.pass(1);
        Check.same("charged when the day 30 passes by itself", y.charged(), 200);
        y.pass(29);
        Check.same("charged on the day 59", y.charged(), 200);
        y.pass(2);
        Check.same("charged when the day 60 is the first of two", y.charged(), 400);
    }

    // "then orders that wait are made; then, if it is a multiple of 30"
    private static void multipleOf30AfterTheOrders() {
        UnitContracts x = new UnitContracts();
        x.make(210, 0, 0, 0);
        x.pass(28);
        payTimes(x, 0, 12);
        x.pass(1);
        x.pay(0);
        Check.same("the order of the day 29 pays the charge of the day 30", x.pass(1), 0);
        Check.same("units", x.units(0, 0), 0);
        x.pay(0);
        x.pass(29);
        x.pay(0);
        x.change(0, 0, 1, 100);
        Check.same("switched on the day 60, charged on it", x.pass(1), 0);
        Check.same("units of the fund 1", x.units(0, 1), 200);
        Check.same("units of the fund 0", x.units(0, 0), 0);
    }

    // "for each contract in force"
    private static void multipleOf30ForContractsInForce() {
        UnitContracts x = new UnitContracts();
        x.make(100, 0, 0, 0);
        x.pass(29);
        x.make(100, 0, 0, 1);
        Check.same("one of the day before lapses too", x.pass(1), 2);
        x.make(100, 0, 0, 2);
        Check.same("one of a day of charges is not charged on it", x.pass(29), 0);
        Check.yes("it is in force", x.isInForce(2));
        Check.same("it alone lapses on the next", x.pass(1), 1);
    }

    /**
     * A contract 0 with 95 accumulation units and some initial units of the fund 0, 29 days after a day. The bid
     * price is one at which 100 cents buy so many initial units.
     */
    private static UnitContracts withInitial(int firstDay, int thousandths, int bid) {
        UnitContracts x = Start.onDay(firstDay);
        x.make(100, 0, 0, 0);
        x.backdate(0, firstDay);
        x.pass(28);
        x.pay(0);
        x.tell(bid, 1, 1);
        Check.same("initial", x.initial(0), thousandths);
        return x;
    }

    // "Initial units become units * 99 / 100"
    private static void shrinkRoundsDown() {
        int[][] due = {{1, 95238, 0}, {2, 47619, 1}, {3, 31746, 2}, {99, 962, 98},
            {100, 953, 99}, {101, 943, 99}, {102, 934, 100}};
        for (int[] row : due) {
            UnitContracts x = withInitial(0, row[0], row[1]);
            x.tell(100000, 1, 1);
            Check.same("what becomes of " + row[0], x.initial(0), row[2]);
            Check.same("units, less two of a charge", x.units(0, 0), 93);
        }
    }

    // "if the day is 720 or later, they are exchanged"
    private static void day720OrLater() {
        int[][] due = {{30, 94285, 95038}, {690, 94285, 95038}, {720, 0, 179894}, {750, 0, 179894},
            {1980, 0, 179894}};
        for (int[] row : due) {
            UnitContracts x = Start.onDay(row[0] - 15);
            x.make(100000, 0, 0, 0);
            x.backdate(0, 0);
            x.pay(0);
            x.pass(14);
            Check.same("initial before the day " + row[0], x.initial(0), 95238);
            x.pass(1);
            // 95238 become 94285, and those 84856 and a part; 200 are taken for the charge.
            Check.same("initial on the day " + row[0], x.initial(0), row[1]);
            Check.same("units on the day " + row[0], x.units(0, 0), row[2]);
        }
    }

    private static void day720ForAPremiumOfThatDay() {
        UnitContracts x = Start.onDay(719);
        x.make(100000, 0, 0, 0);
        x.pay(0);
        x.pass(1);
        Check.same("initial on the day 720", x.initial(0), 0);
        Check.same("units on the day 720", x.units(0, 0), 84856 - 200);
        x.pay(0);
        x.pass(1);
        Check.same("initial on the day 721", x.initial(0), 95238);
        Check.same("units on the day 721", x.units(0, 0), 84856 - 200);
        x.pass(28);
        Check.same("initial on the day 749", x.initial(0), 95238);
        x.pass(1);
        Check.same("initial on the day 750", x.initial(0), 0);
        Check.same("units on the day 750", x.units(0, 0), 2 * (84856 - 200));
    }

    // "accumulation units grow by units * 9 / 10, and no initial units are left"
    private static void exchangeRoundsDown() {
        // They are exchanged after they have shrunk: to 0, 1, 2, 9, 10, 11.
        int[][] due = {{1, 95238, 0}, {2, 47619, 0}, {3, 31746, 1}, {10, 9524, 8},
            {11, 8658, 9}, {12, 7937, 9}};
        for (int[] row : due) {
            UnitContracts x = withInitial(720, row[0], row[1]);
            x.tell(100000, 1, 1);
            Check.same("initial", x.initial(0), 0);
            Check.same("units for " + row[0] + ", less two of a charge", x.units(0, 0), 93 + row[2]);
        }
    }

    // "what is at risk, which is the sum less the worth, at least 0"
    private static void riskAtLeast0() {
        int[] sums = {0, 1, Start.WORTH - 1000, Start.WORTH - 100, Start.WORTH - 1, Start.WORTH, Start.WORTH + 1};
        for (int sum : sums) {
            Check.same("charge for the sum " + sum, Start.chargeFor(sum, 1000), 200);
        }
        Check.same("charge for the first cent that shows", Start.chargeFor(Start.WORTH + 100, 1000), 201);
    }

    // "times the rate, divided by 100000"; "Divisions are rounded down."
    private static void riskRoundsDown() {
        int[][] due = {{99, 1000, 200}, {100, 1000, 201}, {199, 1000, 201}, {200, 1000, 202}, {99999, 1, 200},
            {100000, 1, 201}, {100, 999, 200}, {101, 999, 201}, {900000, 0, 200}};
        for (int[] row : due) {
            Check.same("charge for " + row[0] + " at risk at the rate " + row[1],
                Start.chargeFor(Start.WORTH + row[0], row[1]), row[2]);
        }
    }

    /** The rich contract on the day 30, told with a price of the fund 0. */
    private static UnitContracts chargedAt(int price) {
        UnitContracts x = rich();
        x.pass(29);
        Check.same("lapses at " + price, x.tell(price, 1, 1), 0);
        return x;
    }

    // "as many as give the rest of the charge at the bid price, which is (rest * 1000 + price - 1) / price"
    private static void asManyAsGiveTheRest() {
        int[][] due = {{3, 66667}, {1000, 200}, {1999, 101}, {2000, 100}, {2001, 100}, {3000, 67}, {66666, 4},
            {66667, 3}, {99999, 3}, {100000, 2}};
        for (int[] row : due) {
            Check.same("units left at " + row[0], chargedAt(row[0]).units(0, 0), 95238 - row[1]);
        }
    }

    // "what is got for those taken, at most the rest, is taken off the rest"
    private static void atMostTheRest() {
        for (int fund = 0; fund < 3; fund++) {
            for (int price : new int[] {5, 1000, 1999, 2000, 3000, 66666, 66667, 99999, 100000}) {
                atMostTheRestAt(fund, price);
            }
        }
    }

    private static void atMostTheRestAt(int fund, int price) {
        UnitContracts x = new UnitContracts();
        x.make(100000, 0, 0, fund);
        x.backdate(0, 0);
        x.pass(29);
        x.tell(price, price, price);
        Check.same("charged at " + price, x.charged(), 200);
        for (int other = 0; other < 3; other++) {
            Check.yes("what is beyond the rest buys nothing", other == fund || x.units(0, other) == 0);
        }
        Check.same("lapses", x.pass(30), 0);
        Check.same("what is beyond the rest is not kept for the next charge", x.charged(), 400);
    }

    private static void atMostTheRestOfTheLastFund() {
        UnitContracts x = twoFunds(209);
        x.tell(1000, 100000, 1);
        Check.same("one cent is the rest, one thousandth gives 100", x.charged(), 200);
        Check.same("units of the fund 0", x.units(0, 0), 0);
        Check.same("units of the fund 1", x.units(0, 1), 198);
        Check.same("units of the fund 2", x.units(0, 2), 0);
    }

    /** A contract 0 with as many units of the fund 0 as of the fund 1: what a premium buys at 1050. On the day 29. */
    private static UnitContracts twoFunds(int premium) {
        UnitContracts x = new UnitContracts();
        x.make(premium, 0, 0, 1);
        x.backdate(0, 0);
        x.change(0, 1, 0, 100);
        x.pass(29);
        x.backdate(0, 0);
        Check.same("units of both", x.units(0, 0), x.units(0, 1));
        return x;
    }

    // "fund by fund by rising numbers: as many as give the rest .., or all, if there are fewer"
    private static void orAllIfThereAreFewer() {
        int[][] due = {{209, 0, 198}, {210, 0, 200}, {212, 1, 201}};
        for (int[] row : due) {
            UnitContracts x = twoFunds(row[0]);
            Check.same("lapses", x.tell(1000, 1000, 1000), 0);
            Check.same("units of the fund 0 for " + row[0], x.units(0, 0), row[1]);
            Check.same("units of the fund 1 for " + row[0], x.units(0, 1), row[2]);
            Check.same("charged", x.charged(), 200);
        }
        // 200 are needed of 199: they give 597 and a part at 3000, of which 200 are too much.
        UnitContracts y = twoFunds(209);
        y.tell(3000, 1000, 1000);
        Check.same("fewer are needed of the dearer fund", y.units(0, 0), 199 - 67);
        Check.same("none of the next", y.units(0, 1), 199);
    }

    // "If something of the charge is left, the contract lapses"
    private static void somethingLeft() {
        int[][] due = {{209, 1, 199, 0}, {210, 0, 200, 0}, {212, 0, 200, 1}};
        for (int[] row : due) {
            UnitContracts x = new UnitContracts();
            x.make(row[0], 0, 0, 0);
            x.backdate(0, 0);
            Check.same("lapses of the premium " + row[0], x.pass(30), row[1]);
            Check.same("in force", x.isInForce(0) ? 0 : 1, row[1]);
            Check.same("charged", x.charged(), row[2]);
            Check.same("units", x.units(0, 0), row[3]);
        }
        UnitContracts y = new UnitContracts();
        y.make(210, 0, 0, 0);
        Check.same("all of the charge is left", y.pass(30), 1);
        Check.same("charged", y.charged(), 0);
    }

    private static void somethingLeftAfterThreeFunds() {
        int[][] due = {{209, 1, 199, 0}, {210, 0, 200, 0}, {212, 0, 200, 1}};
        for (int[] row : due) {
            UnitContracts x = new UnitContracts();
            x.make(row[0], 0, 0, 2);
            x.backdate(0, 0);
            x.change(0, 2, 0, 50);
            x.change(0, 2, 1, 60);
            x.pass(29);
            Check.yes("units of all funds", x.units(0, 0) >= 99 && x.units(0, 1) == 60 && x.units(0, 2) >= 40);
            Check.same("lapses of the premium " + row[0], x.pass(1), row[1]);
            Check.same("charged", x.charged(), row[2]);
            Check.same("units", x.units(0, 2), row[3]);
        }
    }

    // "the contract lapses: all its units are taken"
    private static void lapseTakesAllUnits() {
        UnitContracts x = new UnitContracts();
        x.make(100000, 0, 0, 0);
        x.make(1050, 0, 0, 0);
        payTimes(x, 0, 12);
        x.backdate(1, 0);
        x.pass(29);
        Check.same("initial units of the first", x.initial(0), 12 * 95238);
        Check.same("it lapses, as its initial units pay no charge", x.pass(1), 1);
        Check.same("initial", x.initial(0), 0);
        Check.same("worth", x.worth(0), 0);
        Check.same("the other keeps its units", x.units(1, 0), 800);
        Check.same("fundUnits", x.fundUnits(0), 800);
        Check.same("only the other was charged", x.charged(), 200);
    }

    /** What is made good for a premium backdated to the day 0, at 1050, on a day with a bid price. */
    private static long madeGoodFor(int premium, int bidToday) {
        UnitContracts x = new UnitContracts();
        x.make(premium, 0, 0, 0);
        x.tell(bidToday, 1, 1);
        x.backdate(0, 0);
        return x.madeGood();
    }

    // "less the premium, if that is above 0"
    private static void aboveZero() {
        Check.same("far below", madeGoodFor(1050, 1), 0);
        Check.same("2 below: 1048 less 1050", madeGoodFor(1050, 999), 0);
        Check.same("1 below: 1050 less 1051", madeGoodFor(1051, 1000), 0);
        Check.same("0: 1050 less 1050", madeGoodFor(1050, 1000), 0);
        Check.same("1 above: 1051 less 1050", madeGoodFor(1050, 1001), 1);
        Check.same("2 above: 1052 less 1050", madeGoodFor(1050, 1002), 2);
        Check.same("far above", madeGoodFor(1050, 100000), 105000 - 1050);
    }

    private static void aboveZeroEachByItself() {
        UnitContracts x = new UnitContracts();
        x.make(1050, 0, 0, 0);
        x.tell(500, 1, 1);
        x.backdate(0, 0);
        Check.same("525 below", x.madeGood(), 0);
        x.tell(1001, 1, 1);
        x.backdate(0, 0);
        Check.same("1 above after it", x.madeGood(), 1);
        x.tell(500, 1, 1);
        x.backdate(0, 0);
        Check.same("525 below after that", x.madeGood(), 1);
    }
}
