/** Promises 1 to 5: a new object, tell, pass, today, offer. */
public final class PricesTest {
    private PricesTest() {
    }

    public static void main(String[] args) {
        promise2TellsPrices();
        promise2CountsLapses();
        promise3KeepsPrices();
        promise3CountsLapsesOfAllDays();
        promise4();
        promise5();
        promise5Rounding();
        Check.end();
    }

    private static void promise2TellsPrices() {
        UnitContracts x = new UnitContracts();
        Check.same("tell without contracts", x.tell(2000, 300, 40), 0);
        Check.same("today", x.today(), 1);
        Check.same("offer of the fund 0", x.offer(0, 1), 2100);
        Check.same("offer of the fund 1", x.offer(1, 1), 315);
        Check.same("offer of the fund 2", x.offer(2, 1), 42);
        Check.same("tell the lowest", x.tell(1, 1, 1), 0);
        Check.same("tell the highest", x.tell(100000, 100000, 100000), 0);
        Check.same("today", x.today(), 3);
    }

    private static void promise2CountsLapses() {
        UnitContracts x = new UnitContracts();
        x.make(100, 0, 0, 0);
        x.make(100000, 0, 0, 0);
        x.make(100, 0, 0, 0);
        x.backdate(1, 0);
        Check.same("pass up to the day 29", x.pass(29), 0);
        Check.same("tell the day 30", x.tell(1000, 1000, 1000), 2);
        Check.yes("the contract with units is in force", x.isInForce(1));
        x.pass(29);
        Check.same("tell the day 60: what has lapsed lapses once", x.tell(1, 1, 1), 1);
    }

    private static void promise3KeepsPrices() {
        UnitContracts x = new UnitContracts();
        x.tell(200, 400, 600);
        Check.same("pass(1)", x.pass(1), 0);
        Check.same("today", x.today(), 2);
        Check.same("pass(400)", x.pass(400), 0);
        Check.same("today", x.today(), 402);
        for (int day : new int[] {2, 3, 200, 402}) {
            Check.same("offer 0 on " + day, x.offer(0, day), 210);
            Check.same("offer 1 on " + day, x.offer(1, day), 420);
            Check.same("offer 2 on " + day, x.offer(2, day), 630);
        }
        Check.same("offer before", x.offer(2, 0), 1050);
    }

    private static void promise3CountsLapsesOfAllDays() {
        UnitContracts x = new UnitContracts();
        x.make(210, 0, 0, 0);
        x.make(210, 0, 0, 1);
        x.make(210, 0, 0, 2);
        x.backdate(1, 0);
        x.backdate(2, 0);
        x.backdate(2, 0);
        // 0, 200 and 400 units at 1000 pay no, one and two charges.
        Check.same("pass over the days 30, 60 and 90", x.pass(90), 3);
        Check.same("charged", x.charged(), 600);
        Check.yes("none is in force", !x.isInForce(0) && !x.isInForce(1) && !x.isInForce(2));
    }

    private static void promise4() {
        UnitContracts x = new UnitContracts();
        Check.same("today", x.today(), 0);
        x.tell(1, 2, 3);
        Check.same("today after tell", x.today(), 1);
        x.pass(37);
        Check.same("today after pass", x.today(), 38);
        x.make(100, 0, 0, 0);
        x.pay(0);
        Check.same("today after make and pay", x.today(), 38);
    }

    private static void promise5() {
        UnitContracts x = new UnitContracts();
        x.tell(100, 200, 300);
        x.tell(400, 500, 600);
        int[][] due = {{1050, 105, 420}, {1050, 210, 525}, {1050, 315, 630}};
        for (int fund = 0; fund < 3; fund++) {
            for (int day = 0; day < 3; day++) {
                Check.same("offer(" + fund + ", " + day + ")", x.offer(fund, day), due[fund][day]);
            }
        }
    }

    private static void promise5Rounding() {
        UnitContracts x = new UnitContracts();
        x.tell(1, 19, 20);
        Check.same("offer of 1", x.offer(0, 1), 1);
        Check.same("offer of 19", x.offer(1, 1), 19);
        Check.same("offer of 20", x.offer(2, 1), 21);
        x.tell(39, 99999, 100000);
        Check.same("offer of 39", x.offer(0, 2), 40);
        Check.same("offer of 99999", x.offer(1, 2), 104998);
        Check.same("offer of 100000", x.offer(2, 2), 105000);
    }
}
