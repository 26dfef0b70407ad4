/**
 * The last values that are allowed on each side of every argument's range, and what they answer. The first
 * ones that are not allowed are in RefusalsTest.
 */
public final class RangesTest {
    private RangesTest() {
    }

    public static void main(String[] args) {
        promise2LowestPrices();
        promise2HighestPrices();
        promise2LowestAndHighestApart();
        promise2LastDayThatCanBeTold();
        promise3FewestDays();
        promise3MostDays();
        promise3LastOfThemIs2000();
        promise5Funds();
        promise5FirstDay();
        promise5LastDay();
        promise6LowestPremium();
        promise6HighestPremium();
        promise6LowestSum();
        promise6HighestSum();
        promise6LowestRate();
        promise6HighestRate();
        promise6Funds();
        promise6TenthContract();
        promise8EachPairOfFunds();
        promise8LowestPercent();
        promise8HighestPercent();
        promise9FirstDay();
        promise9LastDay();
        numbersOfContracts();
        promise17Funds();
        Check.end();
    }

    private static void offersOfToday(UnitContracts x, int first, int second, int third) {
        Check.same("offer of the fund 0", x.offer(0, x.today()), first);
        Check.same("offer of the fund 1", x.offer(1, x.today()), second);
        Check.same("offer of the fund 2", x.offer(2, x.today()), third);
    }

    // "1 to 100000: of the fund 0", 1 and 2: the lower side
    private static void promise2LowestPrices() {
        UnitContracts x = new UnitContracts();
        Check.same("tell 1", x.tell(1, 1, 1), 0);
        offersOfToday(x, 1, 1, 1);
        Check.same("tell 2", x.tell(2, 2, 2), 0);
        offersOfToday(x, 2, 2, 2);
        Check.same("today", x.today(), 2);
    }

    // the upper side
    private static void promise2HighestPrices() {
        UnitContracts x = new UnitContracts();
        Check.same("tell 100000", x.tell(100000, 100000, 100000), 0);
        offersOfToday(x, 105000, 105000, 105000);
        Check.same("tell 99999", x.tell(99999, 99999, 99999), 0);
        offersOfToday(x, 104998, 104998, 104998);
        Check.same("today", x.today(), 2);
    }

    private static void promise2LowestAndHighestApart() {
        UnitContracts x = new UnitContracts();
        x.tell(1, 100000, 100000);
        offersOfToday(x, 1, 105000, 105000);
        x.tell(100000, 1, 100000);
        offersOfToday(x, 105000, 1, 105000);
        x.tell(100000, 100000, 1);
        offersOfToday(x, 105000, 105000, 1);
        Check.same("today", x.today(), 3);
    }

    // "if today is 2000": 1999 is the last day that is followed by one
    private static void promise2LastDayThatCanBeTold() {
        UnitContracts x = Start.dayBeforeLast();
        Check.same("tell on the day 1999", x.tell(7, 8, 100), 0);
        Check.same("today", x.today(), 2000);
        offersOfToday(x, 7, 8, 105);
        Check.same("its orders are made", x.waiting(), 0);
        Check.same("its premium is made", x.paid(0), 1);
    }

    // "1 to 400"
    private static void promise3FewestDays() {
        UnitContracts x = Start.onDay(31);
        Check.same("pass(1)", x.pass(1), 0);
        Check.same("today", x.today(), 32);
        Check.same("pass(2)", x.pass(2), 0);
        Check.same("today", x.today(), 34);
    }

    private static void promise3MostDays() {
        UnitContracts x = new UnitContracts();
        Check.same("pass(400)", x.pass(400), 0);
        Check.same("today", x.today(), 400);
        Check.same("pass(399)", x.pass(399), 0);
        Check.same("today", x.today(), 799);
    }

    // "if the last of them would be above 2000": 2000 itself is not
    private static void promise3LastOfThemIs2000() {
        for (int days : new int[] {1, 2, 30, 399, 400}) {
            UnitContracts x = Start.onDay(2000 - days);
            Check.same("pass(" + days + ") on the day " + (2000 - days), x.pass(days), 0);
            Check.same("today", x.today(), 2000);
            offersOfToday(x, 1050, 1050, 1050);
        }
        UnitContracts y = Start.dayBeforeLast();
        Check.same("pass(1) on the day 1999", y.pass(1), 0);
        Check.same("its premium is made", y.paid(0), 1);
    }

    // "0 to 2"
    private static void promise5Funds() {
        UnitContracts x = new UnitContracts();
        x.tell(100, 200, 300);
        Check.same("offer of the fund 0", x.offer(0, 1), 105);
        Check.same("offer of the fund 1", x.offer(1, 1), 210);
        Check.same("offer of the fund 2", x.offer(2, 1), 315);
    }

    // "0 to today": the day 0
    private static void promise5FirstDay() {
        UnitContracts x = new UnitContracts();
        offersOfToday(x, 1050, 1050, 1050);
        x.tell(100, 200, 300);
        x.pass(400);
        for (int fund = 0; fund < 3; fund++) {
            Check.same("offer on the day 0", x.offer(fund, 0), 1050);
            Check.same("offer on the day 1", x.offer(fund, 1), 105 * (fund + 1));
        }
    }

    // "0 to today": today
    private static void promise5LastDay() {
        UnitContracts x = new UnitContracts();
        x.tell(100, 200, 300);
        offersOfToday(x, 105, 210, 315);
        x.tell(400, 500, 600);
        offersOfToday(x, 420, 525, 630);
        Check.same("offer on the day before", x.offer(2, 1), 315);
        UnitContracts y = Start.onDay(1999);
        y.tell(400, 500, 600);
        offersOfToday(y, 420, 525, 630);
        Check.same("offer on the day 1999", y.offer(2, 1999), 1050);
    }

    /** What a premium buys on the day 0, at 1050. */
    private static int boughtFor(int premium) {
        UnitContracts x = new UnitContracts();
        Check.same("make with the premium " + premium, x.make(premium, 0, 0, 0), 0);
        return x.backdate(0, 0);
    }

    // "100 to 100000"
    private static void promise6LowestPremium() {
        Check.same("units for 100", boughtFor(100), 95);
        Check.same("units for 101", boughtFor(101), 96);
    }

    private static void promise6HighestPremium() {
        Check.same("units for 100000", boughtFor(100000), 95238);
        Check.same("units for 99999", boughtFor(99999), 95237);
    }

    // "0 to 1000000"
    private static void promise6LowestSum() {
        Check.same("charge for 0", Start.chargeFor(0, 1000), 200);
        Check.same("charge for 1", Start.chargeFor(1, 1000), 200);
    }

    private static void promise6HighestSum() {
        // 904762 are at risk.
        Check.same("charge for 1000000", Start.chargeFor(1000000, 1000), 200 + 9047);
        Check.same("charge for 999900", Start.chargeFor(999900, 1000), 200 + 9046);
        Check.same("charge for 999999", Start.chargeFor(999999, 1000), 200 + 9047);
    }

    // "0 to 1000"
    private static void promise6LowestRate() {
        Check.same("charge at 0", Start.chargeFor(1000000, 0), 200);
        Check.same("charge at 1", Start.chargeFor(1000000, 1), 200 + 9);
    }

    private static void promise6HighestRate() {
        Check.same("charge at 1000", Start.chargeFor(1000000, 1000), 200 + 9047);
        Check.same("charge at 999", Start.chargeFor(1000000, 999), 200 + 9038);
    }

    // "0 to 2: into which premiums go"
    private static void promise6Funds() {
        for (int fund = 0; fund < 3; fund++) {
            UnitContracts x = new UnitContracts();
            x.make(1050, 0, 0, fund);
            x.backdate(0, 0);
            x.pay(0);
            x.pass(1);
            for (int other = 0; other < 3; other++) {
                Check.same("units of " + other, x.units(0, other), other == fund ? 1000 : 0);
                Check.same("fundUnits of " + other, x.fundUnits(other), other == fund ? 2000 : 0);
            }
        }
    }

    // "if there are 10": the tenth is the last that can be made
    private static void promise6TenthContract() {
        UnitContracts x = new UnitContracts();
        for (int i = 0; i < 9; i++) {
            x.make(100, 0, 0, 0);
        }
        Check.same("contracts before it", x.contracts(), 9);
        Check.same("the tenth", x.make(100000, 1000000, 1000, 2), 9);
        Check.same("contracts with it", x.contracts(), 10);
        Check.yes("it is in force", x.isInForce(9));
        Check.same("its first order", x.pay(9), 1);
    }

    // "from, 0 to 2; to, 0 to 2, another fund"
    private static void promise8EachPairOfFunds() {
        for (int from = 0; from < 3; from++) {
            for (int to = 0; to < 3; to++) {
                if (from != to) {
                    switchHalf(from, to);
                }
            }
        }
    }

    private static void switchHalf(int from, int to) {
        UnitContracts x = new UnitContracts();
        x.make(1050, 0, 0, from);
        x.backdate(0, 0);
        Check.same("change from " + from + " to " + to, x.change(0, from, to, 50), 1);
        x.pass(1);
        for (int fund = 0; fund < 3; fund++) {
            Check.same("units of " + fund, x.units(0, fund), fund == from || fund == to ? 500 : 0);
        }
    }

    /** A contract with 1000 units of the fund 0 of which a part is switched to the fund 1. */
    private static UnitContracts switched(int percent) {
        UnitContracts x = new UnitContracts();
        x.make(1050, 0, 0, 0);
        x.backdate(0, 0);
        Check.same("change of " + percent + " percent", x.change(0, 0, 1, percent), 1);
        x.pass(1);
        return x;
    }

    // "1 to 100"
    private static void promise8LowestPercent() {
        Check.same("1 percent is left less", switched(1).units(0, 0), 990);
        Check.same("1 percent is got", switched(1).units(0, 1), 10);
        Check.same("2 percent are got", switched(2).units(0, 1), 20);
    }

    private static void promise8HighestPercent() {
        Check.same("nothing is left", switched(100).units(0, 0), 0);
        Check.same("all is got", switched(100).units(0, 1), 1000);
        Check.same("1 percent is left", switched(99).units(0, 0), 10);
        Check.same("99 percent are got", switched(99).units(0, 1), 990);
    }

    // "0 to today": the day 0
    private static void promise9FirstDay() {
        UnitContracts x = new UnitContracts();
        x.make(2100, 0, 0, 0);
        Check.same("on the day 0, today", x.backdate(0, 0), 2000);
        x.tell(2000, 1, 1);
        Check.same("on the day 0", x.backdate(0, 0), 2000);
        x.tell(4000, 1, 1);
        Check.same("on the day 0", x.backdate(0, 0), 2000);
        Check.same("on the day 1", x.backdate(0, 1), 1000);
    }

    // "0 to today": today
    private static void promise9LastDay() {
        UnitContracts x = new UnitContracts();
        x.make(2100, 0, 0, 0);
        x.tell(2000, 1, 1);
        Check.same("on the day 1, today", x.backdate(0, 1), 1000);
        x.tell(4000, 1, 1);
        Check.same("on the day 2, today", x.backdate(0, 2), 500);
        UnitContracts y = Start.dayBeforeLast();
        y.tell(1, 5000, 1);
        Check.same("on the day 2000", y.backdate(0, 2000), 19047);
        Check.same("on the day 1999", y.backdate(0, 1999), 95238);
    }

    /** Promises 7 to 9 and 12 to 16: the lowest and the highest number of a contract, each with its own answers. */
    private static void numbersOfContracts() {
        UnitContracts x = Start.ten();
        for (int number : new int[] {0, 9}) {
            int bought = (10000 + number) * 1000 / 1050;
            Check.yes("isInForce", x.isInForce(number));
            Check.same("units", x.units(number, number % 3), bought);
            Check.same("initial", x.initial(number), 0);
            Check.same("worth", x.worth(number), bought * 900L / 1000);
            Check.same("paid", x.paid(number), 0);
            Check.same("backdate", x.backdate(number, 0), bought);
        }
        Check.same("pay of the first", x.pay(0), 11);
        Check.same("pay of the last", x.pay(9), 12);
        Check.same("change of the first", x.change(0, 0, 1, 100), 13);
        Check.same("change of the last", x.change(9, 0, 2, 100), 14);
        x.pass(1);
        Check.same("paid by the first", x.paid(0), 2);
        Check.same("paid by another", x.paid(5), 1);
        Check.same("paid by the last", x.paid(9), 2);
        Check.same("what the first had is switched", x.units(0, 0), 0);
        Check.same("what the last had is switched", x.units(9, 0), 0);
    }

    // "0 to 2"
    private static void promise17Funds() {
        UnitContracts x = new UnitContracts();
        for (int fund = 0; fund < 3; fund++) {
            x.make(1050 * (fund + 1), 0, 0, fund);
            x.backdate(fund, 0);
        }
        Check.same("fundUnits of the fund 0", x.fundUnits(0), 1000);
        Check.same("fundUnits of the fund 1", x.fundUnits(1), 2000);
        Check.same("fundUnits of the fund 2", x.fundUnits(2), 3000);
    }
}
