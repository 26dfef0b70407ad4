/** Promises 9 and 19: backdate and madeGood. */
public final class RepairsTest {
    private RepairsTest() {
    }

    public static void main(String[] args) {
        buysAtThePriceOfTheDay();
        buysInTheFundOfThePremium();
        roundsDown();
        countsNotAmongTheTwelve();
        buysAtOnce();
        madeGoodGrows();
        madeGoodIsNeverTakenBack();
        madeGoodOfTheMost();
        Check.end();
    }

    private static void buysAtThePriceOfTheDay() {
        UnitContracts x = new UnitContracts();
        x.make(1050, 0, 0, 0);
        x.tell(2000, 1, 1);
        x.tell(500, 1, 1);
        Check.same("on the day 0", x.backdate(0, 0), 1000);
        Check.same("on the day 1", x.backdate(0, 1), 500);
        Check.same("on today", x.backdate(0, 2), 2000);
        Check.same("units", x.units(0, 0), 3500);
        Check.same("initial", x.initial(0), 0);
        Check.same("worth", x.worth(0), 1750);
    }

    private static void buysInTheFundOfThePremium() {
        UnitContracts x = new UnitContracts();
        x.make(2100, 0, 0, 1);
        x.make(1050, 0, 0, 2);
        x.tell(1, 4000, 1);
        x.tell(1, 8000, 1);
        Check.same("bought", x.backdate(0, 1), 500);
        Check.same("units 0", x.units(0, 0), 0);
        Check.same("units 1", x.units(0, 1), 500);
        Check.same("units 2", x.units(0, 2), 0);
        Check.same("units of the other", x.units(1, 1), 0);
        Check.same("fundUnits", x.fundUnits(1), 500);
        // 500 units cost 4200 at 8400.
        Check.same("madeGood", x.madeGood(), 2100);
    }

    private static void roundsDown() {
        UnitContracts x = new UnitContracts();
        x.make(100, 0, 0, 0);
        Check.same("95 and a part", x.backdate(0, 0), 95);
        x.tell(1010, 1, 1);
        x.tell(1011, 1, 1);
        // 100000 / 1060 is 94 and a part; they cost 99 and a part at 1061.
        Check.same("94 and a part", x.backdate(0, 1), 94);
        Check.same("madeGood", x.madeGood(), 0);
        x.tell(1024, 1, 1);
        // 95 at 1075 cost 102 and a part.
        Check.same("95 and a part", x.backdate(0, 0), 95);
        Check.same("madeGood", x.madeGood(), 2);
    }

    private static void countsNotAmongTheTwelve() {
        UnitContracts x = new UnitContracts();
        x.make(1050, 0, 0, 0);
        for (int i = 0; i < 13; i++) {
            x.backdate(0, 0);
        }
        Check.same("paid", x.paid(0), 0);
        for (int i = 0; i < 12; i++) {
            x.pay(0);
        }
        x.pass(1);
        Check.same("initial", x.initial(0), 12000);
        Check.same("units", x.units(0, 0), 13000);
        Check.same("paid", x.paid(0), 12);
        x.backdate(0, 1);
        Check.same("units", x.units(0, 0), 14000);
        x.pay(0);
        x.pass(1);
        Check.same("units", x.units(0, 0), 15000);
    }

    private static void buysAtOnce() {
        UnitContracts x = new UnitContracts();
        x.make(1050, 0, 0, 0);
        x.change(0, 0, 1, 100);
        x.backdate(0, 0);
        Check.same("waiting", x.waiting(), 1);
        Check.same("units", x.units(0, 0), 1000);
        x.pass(1);
        Check.same("what it bought is switched", x.units(0, 1), 1000);
    }

    private static void madeGoodGrows() {
        UnitContracts x = new UnitContracts();
        x.make(1050, 0, 0, 0);
        x.make(2100, 0, 0, 0);
        x.tell(1500, 1, 1);
        x.backdate(0, 0);
        Check.same("madeGood", x.madeGood(), 525);
        x.backdate(1, 0);
        Check.same("madeGood for both", x.madeGood(), 525 + 1050);
        x.backdate(1, 1);
        Check.same("nothing for today", x.madeGood(), 525 + 1050);
        x.pay(0);
        x.tell(9000, 1, 1);
        Check.same("a day makes nothing good", x.madeGood(), 525 + 1050);
    }

    private static void madeGoodIsNeverTakenBack() {
        UnitContracts x = new UnitContracts();
        x.make(1050, 0, 0, 0);
        x.tell(1001, 1, 1);
        x.backdate(0, 0);
        Check.same("1000 units at 1051", x.madeGood(), 1);
        x.tell(10, 1, 1);
        Check.same("bought when it was dear", x.backdate(0, 0), 1000);
        Check.same("madeGood", x.madeGood(), 1);
    }

    private static void madeGoodOfTheMost() {
        UnitContracts x = new UnitContracts();
        x.make(100000, 0, 0, 2);
        x.tell(1, 1, 1);
        x.tell(1, 1, 100000);
        Check.same("bought", x.backdate(0, 1), 100000000);
        Check.same("bought again", x.backdate(0, 1), 100000000);
        Check.same("madeGood", x.madeGood(), 2 * (10500000000L - 100000));
        Check.same("units", x.units(0, 2), 200000000);
    }
}
