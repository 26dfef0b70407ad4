/** Promises 6 to 8 and 10 to 16: contracts, their orders, and what is asked of them. */
public final class ContractsTest {
    private ContractsTest() {
    }

    public static void main(String[] args) {
        promise6Numbers();
        promise7();
        promise7TwelveInitial();
        promise8();
        promise8Rounding();
        promise8Order();
        promise10();
        promise11();
        promise12();
        promise13();
        promise14();
        promise15();
        promise16();
        Check.end();
    }

    /** A contract 0 of the fund 0 with 100 units for each premium at 1050. */
    private static UnitContracts small() {
        UnitContracts x = new UnitContracts();
        x.make(105, 0, 0, 0);
        return x;
    }

    /** A contract 0 of the fund 0 that has lapsed, on the day 30. */
    private static UnitContracts lapsed() {
        UnitContracts x = small();
        x.pass(30);
        return x;
    }

    private static void promise6Numbers() {
        UnitContracts x = new UnitContracts();
        for (int i = 0; i < 10; i++) {
            Check.same("make", x.make(100 + i, i, i, i % 3), i);
            Check.same("contracts", x.contracts(), i + 1);
        }
        Check.yes("a new contract is in force", x.isInForce(9));
        Check.same("units of a new contract", x.units(9, 0), 0);
        Check.same("initial of a new contract", x.initial(9), 0);
        Check.same("worth of a new contract", x.worth(9), 0);
        Check.same("paid of a new contract", x.paid(9), 0);
    }

    private static void promise7() {
        UnitContracts x = new UnitContracts();
        x.make(1000, 0, 0, 1);
        x.make(3150, 0, 0, 2);
        Check.same("pay", x.pay(0), 1);
        Check.same("pay the other", x.pay(1), 2);
        Check.same("pay again", x.pay(0), 3);
        Check.same("initial before the day", x.initial(0), 0);
        Check.same("paid before the day", x.paid(0), 0);
        x.tell(1, 2000, 3000);
        // 1000 * 1000 / 2100 is 476 and a part; twice.
        Check.same("initial", x.initial(0), 952);
        Check.same("initial of the other", x.initial(1), 1000);
        Check.same("units", x.units(0, 1), 0);
        Check.same("paid", x.paid(0), 2);
        Check.same("waiting", x.waiting(), 0);
        x.pass(1);
        Check.same("an order is made once", x.initial(0), 952);
        Check.same("pay counts from 1 anew", x.pay(1), 1);
    }

    private static void promise7TwelveInitial() {
        UnitContracts x = small();
        x.backdate(0, 0);
        for (int i = 0; i < 11; i++) {
            x.pay(0);
        }
        x.pass(1);
        Check.same("initial of 11", x.initial(0), 1100);
        x.pay(0);
        x.pay(0);
        x.pass(1);
        Check.same("initial of 13", x.initial(0), 1200);
        Check.same("units of the thirteenth and the backdated one", x.units(0, 0), 200);
        Check.same("paid", x.paid(0), 13);
    }

    private static void promise8() {
        UnitContracts x = new UnitContracts();
        x.make(1050, 0, 0, 0);
        x.backdate(0, 0);
        x.pay(0);
        x.pass(1);
        Check.same("change", x.change(0, 0, 2, 30), 1);
        Check.same("change again", x.change(0, 0, 1, 100), 2);
        Check.same("units before the day", x.units(0, 0), 1000);
        x.tell(2000, 500, 300);
        // 300 sold for 600, then the 700 that are left for 1400.
        Check.same("units 0", x.units(0, 0), 0);
        Check.same("units 1", x.units(0, 1), 2800);
        Check.same("units 2", x.units(0, 2), 2000);
        Check.same("initial units stay", x.initial(0), 1000);
        Check.same("paid", x.paid(0), 1);
        x.change(0, 1, 0, 1);
        x.tell(1000, 500, 300);
        Check.same("units 1 less 1 percent", x.units(0, 1), 2772);
        Check.same("units 0 for them", x.units(0, 0), 14);
    }

    private static void promise8Rounding() {
        UnitContracts x = small();
        x.backdate(0, 0);
        x.change(0, 0, 1, 99);
        x.tell(333, 7, 1);
        // 99 units are worth 32 cents and a part; 32 cents buy 4571 and a part.
        Check.same("units 0", x.units(0, 0), 1);
        Check.same("units 1", x.units(0, 1), 4571);
        x.change(0, 0, 1, 99);
        x.change(0, 2, 0, 100);
        x.pass(1);
        Check.same("99 percent of 1", x.units(0, 0), 1);
        Check.same("units 1", x.units(0, 1), 4571);
        x.change(0, 0, 2, 100);
        x.pass(1);
        Check.same("100 percent of 1", x.units(0, 0), 0);
        Check.same("too little for a cent", x.units(0, 2), 0);
    }

    private static void promise8Order() {
        UnitContracts x = small();
        UnitContracts y = small();
        for (int i = 0; i < 12; i++) {
            x.pay(0);
            y.pay(0);
        }
        x.pay(0);
        x.change(0, 0, 1, 100);
        x.change(0, 1, 2, 100);
        y.change(0, 1, 2, 100);
        y.change(0, 0, 1, 100);
        y.pay(0);
        x.pass(1);
        y.pass(1);
        Check.same("a premium, then switches: units 0", x.units(0, 0), 0);
        Check.same("a premium, then switches: units 1", x.units(0, 1), 0);
        Check.same("a premium, then switches: units 2", x.units(0, 2), 100);
        Check.same("switches, then a premium: units 0", y.units(0, 0), 100);
        Check.same("switches, then a premium: units 2", y.units(0, 2), 0);
    }

    private static void promise10() {
        UnitContracts x = lapsed();
        Check.same("a lapsed one counts", x.contracts(), 1);
        x.make(100, 0, 0, 0);
        Check.same("contracts", x.contracts(), 2);
    }

    private static void promise11() {
        UnitContracts x = small();
        Check.same("waiting", x.waiting(), 0);
        x.pay(0);
        Check.same("waiting after pay", x.waiting(), 1);
        x.change(0, 0, 1, 1);
        Check.same("waiting after change", x.waiting(), 2);
        x.backdate(0, 0);
        Check.same("waiting after backdate", x.waiting(), 2);
        x.tell(1, 1, 1);
        Check.same("waiting on the next day", x.waiting(), 0);
    }

    private static void promise12() {
        UnitContracts x = new UnitContracts();
        x.make(209, 0, 0, 0);
        x.make(210, 0, 0, 0);
        x.backdate(0, 0);
        x.backdate(1, 0);
        x.pass(29);
        Check.yes("in force before the charge", x.isInForce(0));
        x.pass(1);
        Check.yes("199 units don't pay 200 cents", !x.isInForce(0));
        Check.yes("200 units pay 200 cents", x.isInForce(1));
        x.pass(30);
        Check.yes("no units pay nothing", !x.isInForce(1));
    }

    private static void promise13() {
        UnitContracts x = new UnitContracts();
        x.make(1050, 0, 0, 2);
        x.make(1050, 0, 0, 1);
        x.backdate(0, 0);
        x.change(0, 2, 0, 25);
        x.pay(0);
        x.pass(1);
        Check.same("units 0", x.units(0, 0), 250);
        Check.same("units 1", x.units(0, 1), 0);
        Check.same("units 2 without initial ones", x.units(0, 2), 750);
        Check.same("units of another", x.units(1, 2), 0);
    }

    private static void promise14() {
        UnitContracts x = small();
        x.pay(0);
        x.backdate(0, 0);
        x.pass(1);
        Check.same("initial", x.initial(0), 100);
        x.backdate(0, 0);
        x.pass(29);
        Check.same("initial after 30 days", x.initial(0), 99);
        Check.same("initial of a lapsed one", lapsed().initial(0), 0);
    }

    private static void promise15() {
        UnitContracts x = new UnitContracts();
        x.make(1050, 0, 0, 0);
        x.make(1050, 0, 0, 1);
        x.backdate(0, 0);
        x.pay(0);
        x.change(0, 0, 1, 50);
        x.change(0, 0, 2, 50);
        x.pass(1);
        Check.same("worth", x.worth(0), 2000);
        x.tell(3, 5, 7);
        // 1000 initial, 250, 500 and 250 units: 3, 0, 2 and 1, each rounded down by itself.
        Check.same("worth", x.worth(0), 6);
        Check.same("worth of another", x.worth(1), 0);
        x.tell(1999, 1, 1);
        Check.same("worth of today", x.worth(0), 1999 + 499);
        Check.same("worth of a lapsed one", lapsed().worth(0), 0);
    }

    private static void promise16() {
        UnitContracts x = small();
        x.make(1000, 0, 0, 0);
        x.pay(0);
        x.pay(0);
        x.pay(1);
        x.backdate(0, 0);
        x.change(0, 0, 1, 10);
        Check.same("paid before the day", x.paid(0), 0);
        x.pass(1);
        Check.same("paid", x.paid(0), 2);
        Check.same("paid by the other", x.paid(1), 1);
        x.pass(29);
        Check.yes("it has lapsed", !x.isInForce(0));
        Check.same("paid by a lapsed one", x.paid(0), 2);
    }
}
