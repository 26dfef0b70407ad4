/**
 * "Of accumulation units it has at most 1000000000000 thousandths of each fund; what would be more is lost":
 * by each way in which these units grow, one less than the limit, the limit itself, and one more.
 */
public final class LimitTest {
    private static final long MOST = 1000000000000L;

    // Bid prices at which 100 cents buy, at the offer price, as many thousandths as the place tells.
    private static final int[] BIDS = {0, 47620, 47619, 31746, 23810, 19048};

    private LimitTest() {
    }

    public static void main(String[] args) {
        bySwitches();
        byALaterPremium();
        byABackdatedPremium();
        byAnExchange();
        ofEachFund();
        ofEachContract();
        whatIsLostStaysLost();
        ordersOfADayAreCutOneByOne();
        whatIsLostIsBought();
        initialUnitsAreOthers();
        worthOfTheMost();
        Check.end();
    }

    /**
     * Three days after it began: a contract 0 with the most units of the fund 1 and no others, the prices are
     * 100000, 1, 1. Its premiums go into the given fund, 1 or 2.
     */
    private static UnitContracts full(int firstDay, int premium, int fund) {
        UnitContracts x = Start.onDay(firstDay);
        x.make(premium, 0, 0, fund);
        x.tell(1, 1, 1);
        x.backdate(0, firstDay + 1);
        x.change(0, fund, 0, 100);
        x.tell(1, 100000, 100000);
        x.change(0, 0, 1, 100);
        x.tell(100000, 1, 1);
        Check.same("the most units", x.units(0, 1), MOST);
        return x;
    }

    /** Thirty days after it began: as full, less the two thousandths of a charge at the price 100000. */
    private static UnitContracts twoLess(int firstDay, int fund) {
        UnitContracts x = full(firstDay, 100, fund);
        x.pass(26);
        x.tell(1, 100000, 1);
        Check.same("two less than the most", x.units(0, 1), MOST - 2);
        return x;
    }

    private static UnitContracts afterSwitchOf(int thousandths) {
        UnitContracts x = twoLess(0, 2);
        x.backdate(0, 1);
        x.change(0, 2, 1, 100);
        // 100000 thousandths at the price 1 are 100 cents, which give one at 100000.
        x.tell(1, 100000, thousandths);
        Check.same("all is sold", x.units(0, 2), 0);
        return x;
    }

    private static void bySwitches() {
        Check.same("one less", afterSwitchOf(1).units(0, 1), MOST - 1);
        Check.same("the most", afterSwitchOf(2).units(0, 1), MOST);
        Check.same("one more", afterSwitchOf(3).units(0, 1), MOST);
        Check.same("many more", afterSwitchOf(100000).units(0, 1), MOST);
    }

    private static UnitContracts afterLaterPremiumOf(int thousandths) {
        UnitContracts x = twoLess(0, 1);
        for (int i = 0; i < 12; i++) {
            x.pay(0);
        }
        x.pass(1);
        x.pay(0);
        x.tell(1, BIDS[thousandths], 1);
        Check.same("initial units are not in its way", x.initial(0), 0);
        Check.same("it is the thirteenth", x.paid(0), 13);
        return x;
    }

    private static void byALaterPremium() {
        Check.same("one less", afterLaterPremiumOf(1).units(0, 1), MOST - 1);
        Check.same("the most", afterLaterPremiumOf(2).units(0, 1), MOST);
        Check.same("one more", afterLaterPremiumOf(3).units(0, 1), MOST);
    }

    private static UnitContracts afterBackdatedPremiumOf(int thousandths) {
        UnitContracts x = twoLess(0, 1);
        x.tell(1, BIDS[thousandths], 1);
        Check.same("bought", x.backdate(0, 31), thousandths);
        return x;
    }

    private static void byABackdatedPremium() {
        Check.same("one less", afterBackdatedPremiumOf(1).units(0, 1), MOST - 1);
        Check.same("the most", afterBackdatedPremiumOf(2).units(0, 1), MOST);
        Check.same("one more", afterBackdatedPremiumOf(3).units(0, 1), MOST);
    }

    /** On the day 750, after the initial units were exchanged and two more were taken for the charge. */
    private static UnitContracts afterExchangeOf(int initial) {
        UnitContracts x = twoLess(690, 1);
        x.pay(0);
        x.tell(1, BIDS[initial], 1);
        Check.same("initial units", x.initial(0), initial);
        x.pass(28);
        x.tell(1, 100000, 1);
        Check.same("they are exchanged", x.initial(0), 0);
        return x;
    }

    private static void byAnExchange() {
        // 3, 4 and 5 shrink to 2, 3 and 4, which are exchanged for 1, 2 and 3.
        Check.same("one less", afterExchangeOf(3).units(0, 1), MOST - 1 - 2);
        Check.same("the most", afterExchangeOf(4).units(0, 1), MOST - 2);
        Check.same("one more", afterExchangeOf(5).units(0, 1), MOST - 2);
    }

    private static void ofEachFund() {
        UnitContracts x = new UnitContracts();
        x.make(100000, 0, 0, 1);
        x.tell(1, 1, 1);
        x.backdate(0, 1);
        x.change(0, 1, 0, 50);
        x.change(0, 1, 2, 100);
        x.tell(1, 100000, 1);
        Check.same("the fund 0 is full", x.units(0, 0), MOST);
        Check.same("the fund 2 is full too", x.units(0, 2), MOST);
        x.change(0, 0, 1, 1);
        x.tell(100000, 1, 1);
        x.change(0, 1, 0, 1);
        x.tell(1, 100000, 1);
        Check.same("a hundredth is missing in the fund 1", x.units(0, 1), MOST / 100 * 99);
        for (int i = 0; i < 99; i++) {
            x.backdate(0, 1);
        }
        Check.same("one premium is missing", x.units(0, 1), MOST - 100000000);
        x.backdate(0, 1);
        for (int fund = 0; fund < 3; fund++) {
            Check.same("each fund is full", x.units(0, fund), MOST);
        }
        x.backdate(0, 1);
        Check.same("one premium more is lost", x.units(0, 1), MOST);
    }

    private static void ofEachContract() {
        UnitContracts x = new UnitContracts();
        x.tell(1, 1, 1);
        for (int i = 0; i < 10; i++) {
            x.make(100000, 0, 0, 1);
            x.backdate(i, 1);
            x.change(i, 1, 0, 100);
        }
        x.tell(1, 100000, 1);
        for (int i = 0; i < 10; i++) {
            Check.same("each contract is full", x.units(i, 0), MOST);
        }
        Check.same("fundUnits of ten full contracts", x.fundUnits(0), 10 * MOST);
        x.backdate(3, 1);
        x.change(3, 1, 0, 100);
        x.pass(1);
        Check.same("what one loses no other gets", x.fundUnits(0), 10 * MOST);
    }

    private static void whatIsLostStaysLost() {
        UnitContracts x = full(0, 100000, 1);
        Check.same("bought and lost", x.backdate(0, 3), 100000000);
        x.change(0, 1, 2, 1);
        x.tell(1, 1, 1);
        Check.same("99 of 100 are left", x.units(0, 1), 990000000000L);
        Check.same("one of 100 is switched", x.units(0, 2), 10000000000L);
        Check.same("there is room again", x.backdate(0, 3), 100000000);
        Check.same("units", x.units(0, 1), 990100000000L);
    }

    // Orders are made "in the order in which they were given": a purchase before a sale is lost, one after it is not.
    private static void ordersOfADayAreCutOneByOne() {
        UnitContracts x = full(0, 100000, 1);
        UnitContracts y = full(0, 100000, 1);
        for (int i = 0; i < 12; i++) {
            x.pay(0);
            y.pay(0);
        }
        x.pay(0);
        x.change(0, 1, 2, 1);
        y.change(0, 1, 2, 1);
        y.pay(0);
        x.tell(1, 1, 1);
        y.tell(1, 1, 1);
        Check.same("a premium, then a switch", x.units(0, 1), 990000000000L);
        Check.same("a switch, then a premium", y.units(0, 1), 990100000000L);
    }

    private static void whatIsLostIsBought() {
        UnitContracts x = full(0, 100000, 1);
        x.tell(1, 2000, 1);
        // 100000000 thousandths cost 210000000 cents at 2100.
        Check.same("bought", x.backdate(0, 1), 100000000);
        Check.same("kept", x.units(0, 1), MOST);
        Check.same("madeGood", x.madeGood(), 210000000 - 100000);
    }

    // "Of accumulation units": the limit is not one of initial units, nor of both together
    private static void initialUnitsAreOthers() {
        UnitContracts x = full(0, 100000, 1);
        for (int i = 0; i < 12; i++) {
            x.pay(0);
        }
        x.tell(100000, 1, 1);
        Check.same("initial", x.initial(0), 1200000000L);
        Check.same("units", x.units(0, 1), MOST);
        Check.same("fundUnits", x.fundUnits(1), MOST + 1200000000L);
    }

    private static void worthOfTheMost() {
        UnitContracts x = full(0, 100000, 1);
        x.tell(1, 100000, 1);
        Check.same("worth at 100000", x.worth(0), 100000000000000L);
        x.tell(1, 1, 1);
        Check.same("worth at 1", x.worth(0), 1000000000L);
        x.pass(24);
        x.tell(1, 99999, 1);
        Check.same("today", x.today(), 30);
        // (200000 + 99998) / 99999 is 3, which give 299 and a part.
        Check.same("units after a charge", x.units(0, 1), MOST - 3);
        Check.same("charged", x.charged(), 200);
    }
}
