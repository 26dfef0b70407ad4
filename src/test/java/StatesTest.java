/** What the objects answer that lie at an end: a new one, one without contracts, one with 10, and the last day. */
public final class StatesTest {
    private StatesTest() {
    }

    public static void main(String[] args) {
        newObject();
        newObjectBesideAnother();
        withoutContractsADayLapsesNone();
        withoutContractsNothingIsCharged();
        withoutContractsNothingWaits();
        tenContractsAnswerEachForItself();
        tenContractsAreChargedEach();
        tenContractsLapseAtOnce();
        tenContractsThatHaveLapsedStayTen();
        lastDayHasPrices();
        lastDayIsNoChargeDay();
        lastDayTakesContracts();
        lastDayLetsOrdersWait();
        lastDayTakesRepairs();
        newContract();
        lapsedContract();
        mostOrdersOf512Calls();
        Check.end();
    }

    // "Prices of the day 0, no contracts."
    private static void newObject() {
        UnitContracts x = new UnitContracts();
        nothingIsThere(x);
        Check.same("today", x.today(), 0);
        for (int fund = 0; fund < 3; fund++) {
            Check.same("offer on the day 0", x.offer(fund, 0), 1050);
        }
    }

    private static void nothingIsThere(UnitContracts x) {
        Check.same("contracts", x.contracts(), 0);
        Check.same("waiting", x.waiting(), 0);
        Check.same("charged", x.charged(), 0);
        Check.same("madeGood", x.madeGood(), 0);
        for (int fund = 0; fund < 3; fund++) {
            Check.same("fundUnits", x.fundUnits(fund), 0);
        }
    }

    private static void newObjectBesideAnother() {
        UnitContracts other = Start.busy();
        UnitContracts x = new UnitContracts();
        nothingIsThere(x);
        Check.same("today", x.today(), 0);
        x.tell(5, 6, 7);
        Check.same("the other keeps its prices", other.offer(0, 1), 525);
        Check.same("the other keeps its contracts", other.contracts(), 3);
    }

    private static void withoutContractsADayLapsesNone() {
        UnitContracts x = new UnitContracts();
        Check.same("tell", x.tell(1, 2, 3), 0);
        Check.same("pass up to the day 29", x.pass(28), 0);
        Check.same("tell of a day of charges", x.tell(4, 5, 6), 0);
        Check.same("pass over many of them", x.pass(400), 0);
        Check.same("today", x.today(), 430);
    }

    private static void withoutContractsNothingIsCharged() {
        nothingIsThere(Start.onDay(30));
        nothingIsThere(Start.onDay(720));
        nothingIsThere(Start.onDay(2000));
    }

    private static void withoutContractsNothingWaits() {
        UnitContracts x = new UnitContracts();
        Check.noSuch("pay", () -> x.pay(0));
        Check.noSuch("change", () -> x.change(0, 0, 1, 50));
        Check.noSuch("backdate", () -> x.backdate(0, 0));
        Check.same("waiting", x.waiting(), 0);
        Check.same("the first contract", x.make(1050, 0, 0, 0), 0);
        Check.same("its first order", x.pay(0), 1);
    }

    private static void tenContractsAnswerEachForItself() {
        UnitContracts x = new UnitContracts();
        for (int i = 0; i < 10; i++) {
            Check.same("make", x.make(1050 * (i + 1), 0, 0, i % 3), i);
            Check.same("backdate", x.backdate(i, 0), 1000 * (i + 1));
            Check.same("pay", x.pay(i), i + 1);
        }
        x.pass(1);
        for (int i = 0; i < 10; i++) {
            Check.same("units", x.units(i, i % 3), 1000 * (i + 1));
            Check.same("units of the next fund", x.units(i, (i + 1) % 3), 0);
            Check.same("initial", x.initial(i), 1000 * (i + 1));
            Check.same("worth", x.worth(i), 2000 * (i + 1));
            Check.same("paid", x.paid(i), 1);
        }
        // The contracts 0, 3, 6, 9, then 1, 4, 7, then 2, 5, 8.
        Check.same("fundUnits of the fund 0", x.fundUnits(0), 2000 * (1 + 4 + 7 + 10));
        Check.same("fundUnits of the fund 1", x.fundUnits(1), 2000 * (2 + 5 + 8));
        Check.same("fundUnits of the fund 2", x.fundUnits(2), 2000 * (3 + 6 + 9));
    }

    private static void tenContractsAreChargedEach() {
        UnitContracts x = new UnitContracts();
        for (int i = 0; i < 10; i++) {
            x.make(1050, 0, 0, i % 3);
            x.backdate(i, 0);
        }
        Check.same("lapses", x.pass(30), 0);
        Check.same("charged", x.charged(), 10 * 200);
        Check.same("units of the last", x.units(9, 0), 800);
    }

    private static void tenContractsLapseAtOnce() {
        UnitContracts told = new UnitContracts();
        UnitContracts passed = new UnitContracts();
        for (int i = 0; i < 10; i++) {
            told.make(100, 0, 0, 0);
            passed.make(100, 0, 0, 0);
        }
        told.pass(29);
        Check.same("lapses by tell", told.tell(1, 1, 1), 10);
        Check.same("lapses by pass", passed.pass(30), 10);
        Check.same("lapses by the next day of charges", told.pass(30), 0);
    }

    private static void tenContractsThatHaveLapsedStayTen() {
        UnitContracts x = new UnitContracts();
        for (int i = 0; i < 10; i++) {
            x.make(100, 0, 0, 0);
        }
        x.pass(30);
        Check.same("contracts", x.contracts(), 10);
        Check.wrongState("an eleventh", () -> x.make(100, 0, 0, 0));
        Check.same("paid by the last", x.paid(9), 0);
    }

    private static void lastDayHasPrices() {
        UnitContracts x = Start.onDay(1999);
        x.tell(100, 200, 100000);
        Check.same("today", x.today(), 2000);
        Check.same("offer of the fund 0", x.offer(0, 2000), 105);
        Check.same("offer of the fund 1", x.offer(1, 2000), 210);
        Check.same("offer of the fund 2", x.offer(2, 2000), 105000);
        Check.same("offer on the day before", x.offer(2, 1999), 1050);
        Check.same("offer on the day 0", x.offer(2, 0), 1050);
    }

    private static void lastDayIsNoChargeDay() {
        UnitContracts x = Start.onDay(1961);
        x.make(100000, 0, 0, 0);
        x.backdate(0, 0);
        x.pass(18);
        Check.same("charged on the day 1979", x.charged(), 0);
        x.pass(1);
        Check.same("charged on the day 1980, the last of its kind", x.charged(), 200);
        x.pass(20);
        Check.same("today", x.today(), 2000);
        Check.same("charged on the day 2000", x.charged(), 200);
    }

    private static void lastDayTakesContracts() {
        UnitContracts x = Start.onDay(2000);
        Check.same("make", x.make(1050, 0, 0, 2), 0);
        Check.same("contracts", x.contracts(), 1);
        Check.yes("it is in force", x.isInForce(0));
        Check.same("its worth", x.worth(0), 0);
    }

    private static void lastDayLetsOrdersWait() {
        UnitContracts x = Start.lastDay();
        Check.same("pay", x.pay(0), 3);
        Check.same("change", x.change(0, 1, 2, 100), 4);
        Check.wrongState("tell", () -> x.tell(1, 1, 1));
        Check.wrongState("pass", () -> x.pass(1));
        Check.same("they wait", x.waiting(), 4);
        Check.same("no premium is made", x.paid(0), 0);
    }

    private static void lastDayTakesRepairs() {
        UnitContracts x = Start.onDay(1999);
        x.make(1050, 0, 0, 2);
        x.tell(1, 1, 3000);
        Check.same("on the day 0", x.backdate(0, 0), 1000);
        Check.same("on the day 1999", x.backdate(0, 1999), 1000);
        Check.same("on the day 2000", x.backdate(0, 2000), 333);
        Check.same("units", x.units(0, 2), 2333);
        Check.same("worth", x.worth(0), 6999);
        // 1000 units cost 3150 today; 333 cost 1048 and a part.
        Check.same("madeGood", x.madeGood(), 2 * 2100);
    }

    // "none at first": a contract has no units when it is made
    private static void newContract() {
        for (int fund = 0; fund < 3; fund++) {
            UnitContracts x = new UnitContracts();
            x.make(1050, 1000000, 1000, fund);
            for (int of = 0; of < 3; of++) {
                Check.same("units", x.units(0, of), 0);
                Check.same("fundUnits", x.fundUnits(of), 0);
            }
            Check.same("initial", x.initial(0), 0);
            Check.same("worth", x.worth(0), 0);
            Check.same("paid", x.paid(0), 0);
            Check.same("waiting", x.waiting(), 0);
            Check.yes("it is in force", x.isInForce(0));
        }
    }

    private static void lapsedContract() {
        UnitContracts x = new UnitContracts();
        x.make(1050, 0, 0, 1);
        for (int i = 0; i < 12; i++) {
            x.pay(0);
        }
        Check.same("it lapses with initial units alone", x.pass(30), 1);
        Check.yes("it is not in force", !x.isInForce(0));
        for (int of = 0; of < 3; of++) {
            Check.same("units", x.units(0, of), 0);
            Check.same("fundUnits", x.fundUnits(of), 0);
        }
        Check.same("initial", x.initial(0), 0);
        Check.same("worth", x.worth(0), 0);
        Check.same("its premiums were made", x.paid(0), 12);
        Check.same("it is still a contract", x.contracts(), 1);
    }

    // "An object is used for at most 512 calls": one makes the contract, the others give orders
    private static void mostOrdersOf512Calls() {
        UnitContracts x = new UnitContracts();
        x.make(105, 0, 0, 0);
        for (int i = 1; i <= 511; i++) {
            Check.same("an order", x.pay(0), i);
        }
        UnitContracts y = new UnitContracts();
        y.make(105, 0, 0, 0);
        for (int i = 1; i <= 508; i++) {
            Check.same("an order", y.pay(0), i);
        }
        y.pass(1);
        Check.same("all are made", y.paid(0), 508);
        Check.same("units of 496 premiums", y.units(0, 0), 49600);
    }
}
