/** What a day does, whether it is told (promise 2) or passes (promise 3). */
public final class DayTest {
    private DayTest() {
    }

    public static void main(String[] args) {
        ordersAreMadeBeforeTheCharge();
        initialUnitsShrink();
        chargeForWhatIsAtRisk();
        chargeAfterInitialUnitsShrink();
        chargeIsTakenFundByFund();
        neededUnitsAreRoundedUp();
        partOfAChargeIsGot();
        lapseTakesAll();
        exchangeFromTheDay720();
        exchangeGoesOnLater();
        chargeUsesUnitsOfTheExchange();
        premiumHolidays();
        Check.end();
    }

    private static void ordersAreMadeBeforeTheCharge() {
        UnitContracts x = Start.onDay(29);
        x.make(210, 0, 0, 0);
        for (int i = 0; i < 13; i++) {
            x.pay(0);
        }
        Check.same("lapses on the day 30", x.pass(1), 0);
        Check.same("12 premiums shrink at once", x.initial(0), 2376);
        Check.same("the thirteenth pays the charge", x.units(0, 0), 0);
        Check.same("charged", x.charged(), 200);
    }

    private static void initialUnitsShrink() {
        UnitContracts x = new UnitContracts();
        x.make(100000, 0, 0, 0);
        x.backdate(0, 0);
        x.pay(0);
        x.pass(29);
        Check.same("initial on the day 29", x.initial(0), 95238);
        x.pass(1);
        Check.same("initial on the day 30", x.initial(0), 94285);
        x.pass(29);
        Check.same("initial on the day 59", x.initial(0), 94285);
        x.tell(1000, 1000, 1000);
        Check.same("initial on the day 60", x.initial(0), 93342);
        Check.same("units on the day 60", x.units(0, 0), 95238 - 400);
    }

    private static void chargeForWhatIsAtRisk() {
        UnitContracts x = new UnitContracts();
        x.make(100000, 1000000, 1000, 1);
        x.backdate(0, 0);
        x.pass(30);
        // 904762 are at risk, which is 9047 and a part.
        Check.same("charged", x.charged(), 9247);
        Check.same("units", x.units(0, 1), 95238 - 9247);
    }

    private static void chargeAfterInitialUnitsShrink() {
        UnitContracts x = new UnitContracts();
        x.make(100000, 200000, 1000, 0);
        x.backdate(0, 0);
        x.pay(0);
        x.pass(30);
        // The worth is 94285 and 95238, so 10477 are at risk; before it was 190476.
        Check.same("charged", x.charged(), 304);
        Check.same("units", x.units(0, 0), 95238 - 304);
    }

    /** A contract 0 of the fund 2 with 190 units each of the funds 1 and 2, on the day 29. */
    private static UnitContracts halved() {
        UnitContracts x = new UnitContracts();
        x.make(100, 0, 0, 2);
        for (int i = 0; i < 4; i++) {
            x.backdate(0, 0);
        }
        x.change(0, 2, 1, 50);
        x.pass(29);
        return x;
    }

    private static void chargeIsTakenFundByFund() {
        UnitContracts x = halved();
        Check.same("lapses", x.pass(1), 0);
        Check.same("units 1", x.units(0, 1), 0);
        Check.same("units 2", x.units(0, 2), 180);
        Check.same("charged", x.charged(), 200);
    }

    private static void neededUnitsAreRoundedUp() {
        UnitContracts x = halved();
        x.tell(1000, 3000, 1);
        Check.same("67 units for 200 cents at 3000", x.units(0, 1), 190 - 67);
        Check.same("the next fund keeps its units", x.units(0, 2), 190);
        Check.same("no more than the charge is got", x.charged(), 200);
        x.pass(30);
        Check.same("charged", x.charged(), 400);
    }

    private static void partOfAChargeIsGot() {
        UnitContracts x = halved();
        Check.same("lapses", x.tell(1000, 999, 7), 1);
        // 190 units at 999 give 189 and a part, 190 at 7 give 1 and a part.
        Check.same("charged", x.charged(), 190);
        UnitContracts y = halved();
        y.tell(1000, 999, 58);
        // 11 are left for the fund 2: 190 units at 58 give 11 and a part.
        Check.yes("just enough", y.isInForce(0));
        Check.same("units left at 58", y.units(0, 2), 0);
        Check.same("charged", y.charged(), 200);
        UnitContracts z = halved();
        Check.same("lapses at 57", z.tell(1000, 999, 57), 1);
        Check.same("charged", z.charged(), 199);
    }

    private static void lapseTakesAll() {
        UnitContracts x = halved();
        x.make(100000, 0, 0, 1);
        x.backdate(1, 0);
        for (int i = 0; i < 12; i++) {
            x.pay(0);
        }
        Check.same("lapses", x.tell(1000, 1, 1), 2);
        for (int fund = 0; fund < 3; fund++) {
            Check.same("units of a lapsed one", x.units(0, fund), 0);
            Check.same("fundUnits", x.fundUnits(fund), 0);
        }
        Check.same("initial of a lapsed one", x.initial(0), 0);
        Check.same("worth of a lapsed one", x.worth(0), 0);
        Check.yes("a lapsed one is not in force", !x.isInForce(0));
        Check.same("95238 units at 1 give 95", x.charged(), 95);
        Check.same("what has lapsed lapses no more", x.pass(400), 0);
        Check.same("what has lapsed is not charged", x.charged(), 95);
    }

    private static void exchangeFromTheDay720() {
        UnitContracts x = Start.onDay(689);
        x.make(100000, 0, 0, 1);
        x.backdate(0, 0);
        x.pay(0);
        x.pass(1);
        Check.same("initial on the day 690", x.initial(0), 94285);
        Check.same("units on the day 690", x.units(0, 1), 95238 - 200);
        x.pass(29);
        Check.same("initial on the day 719", x.initial(0), 94285);
        x.pass(1);
        // 94285 become 93342, and 9 of 10 of them are 84007 and a part.
        Check.same("initial on the day 720", x.initial(0), 0);
        Check.same("units on the day 720", x.units(0, 1), 95238 - 200 + 84007 - 200);
        Check.same("fundUnits on the day 720", x.fundUnits(1), 95238 - 200 + 84007 - 200);
    }

    private static void exchangeGoesOnLater() {
        UnitContracts x = Start.onDay(720);
        x.make(100000, 0, 0, 0);
        x.pay(0);
        x.pass(29);
        Check.same("initial on the day 749", x.initial(0), 95238);
        Check.same("lapses on the day 750", x.pass(1), 0);
        Check.same("initial on the day 750", x.initial(0), 0);
        Check.same("units on the day 750", x.units(0, 0), 84856 - 200);
    }

    private static void chargeUsesUnitsOfTheExchange() {
        UnitContracts x = Start.onDay(719);
        x.make(236, 0, 0, 0);
        x.pay(0);
        // 224 units shrink to 221, and 198 are exchanged; what is lost is not at hand for the charge.
        Check.same("lapses", x.pass(1), 1);
        Check.same("charged", x.charged(), 198);
        UnitContracts y = Start.onDay(719);
        y.make(239, 0, 0, 0);
        y.pay(0);
        // 227 units shrink to 224, and 201 are exchanged.
        Check.same("lapses", y.pass(1), 0);
        Check.same("units", y.units(0, 0), 1);
    }

    private static void premiumHolidays() {
        UnitContracts x = new UnitContracts();
        x.make(1050, 0, 0, 0);
        x.backdate(0, 0);
        x.pay(0);
        Check.same("five charges are paid", x.pass(150), 0);
        Check.same("initial units go on", x.initial(0), 950);
        x.backdate(0, 0);
        Check.same("five charges more", x.pass(150), 0);
        Check.same("then it lapses", x.pass(30), 1);
        Check.same("charged", x.charged(), 2000);
    }
}
