import java.util.ArrayList;
import java.util.List;
import java.util.function.Consumer;

/**
 * Every "Throws .." of promises 2 to 17: the first values that are not allowed on each side of a range, what
 * is thrown, and with it two sentences of the Terms: "if several apply, the one that it lists first is
 * thrown. A call that throws changes nothing."
 */
public final class RefusalsTest {
    private static final int LOW = Integer.MIN_VALUE;
    private static final int HIGH = Integer.MAX_VALUE;
    private static final int[] WRONG_FUNDS = {-1, 3, LOW, HIGH};
    private static final int[] WRONG_PRICES = {0, -1, 100001, LOW, HIGH};
    private static final int[] WRONG_SPANS = {0, -1, 401, LOW, HIGH};
    private static final int[] WRONG_PERCENTS = {0, -1, 101, LOW, HIGH};

    private static final Refused NEW = Refused.on("a new object", UnitContracts::new);
    private static final Refused BUSY = Refused.on("the busy object", Start::busy);
    private static final Refused TEN = Refused.on("an object with 10 contracts", Start::ten);
    private static final Refused BEFORE_LAST = Refused.on("the day 1999", Start::dayBeforeLast);
    private static final Refused LAST = Refused.on("the day 2000", Start::lastDay);

    private static final int BUSY_CONTRACTS = 3;
    private static final int BUSY_LAPSED = 1;
    private static final int BUSY_DAY = 31;
    private static final int LAST_LAPSED = 1;

    /** A call that asks for a contract by its number. */
    private interface Asking {
        void ask(UnitContracts x, int contract);
    }

    private RefusalsTest() {
    }

    public static void main(String[] args) {
        theStartsAreAsTold();
        promise2PriceOutOfRange();
        promise2TodayIs2000();
        promise2PriceBeforeState();
        promise3DaysOutOfRange();
        promise3LastDayAbove2000();
        promise3DaysBeforeState();
        promise5ArgumentOutOfRange();
        promise6ArgumentOutOfRange();
        promise6ThereAreTen();
        promise6ArgumentBeforeState();
        promise7NoSuchContract();
        promise7NotInForce();
        promise8NoSuchContract();
        promise8ArgumentOutOfRange();
        promise8NotInForce();
        promise8ContractBeforeArgument();
        promise8ArgumentBeforeState();
        promise9NoSuchContract();
        promise9DayOutOfRange();
        promise9NotInForce();
        promise9ContractBeforeArgument();
        promise9ArgumentBeforeState();
        promise12NoSuchContract();
        promise13NoSuchContract();
        promise13FundOutOfRange();
        promise13ContractBeforeArgument();
        promise14NoSuchContract();
        promise15NoSuchContract();
        promise16NoSuchContract();
        promise17FundOutOfRange();
        Check.end();
    }

    /** A refusal shows little where nothing could be changed: so each start must have what it is told to have. */
    private static void theStartsAreAsTold() {
        UnitContracts busy = Start.busy();
        Check.same("contracts", busy.contracts(), BUSY_CONTRACTS);
        Check.same("today", busy.today(), BUSY_DAY);
        Check.same("waiting", busy.waiting(), 3);
        Check.yes("in force", busy.isInForce(0) && busy.isInForce(2));
        Check.yes("lapsed", !busy.isInForce(BUSY_LAPSED));
        Check.yes("something is charged and made good", busy.charged() > 0 && busy.madeGood() > 0);
        Check.yes("initial units", busy.initial(0) > 0 && busy.initial(2) > 0);
        Check.yes("accumulation units", busy.units(0, 0) > 0 && busy.units(2, 2) > 0);
        UnitContracts last = Start.lastDay();
        Check.same("the last day", last.today(), 2000);
        Check.same("waiting on it", last.waiting(), 2);
        Check.yes("in force on it", last.isInForce(0) && last.units(0, 1) > 0);
        Check.yes("lapsed on it", !last.isInForce(LAST_LAPSED));
        Check.same("the day before the last", Start.dayBeforeLast().today(), 1999);
        Check.same("ten contracts", Start.ten().contracts(), 10);
        Check.same("orders of ten contracts", Start.ten().waiting(), 10);
    }

    // "Throws IllegalArgumentException if a price is out of range"
    private static void promise2PriceOutOfRange() {
        for (Refused start : new Refused[] {NEW, BUSY, TEN, BEFORE_LAST}) {
            eachWrongPrice(start);
        }
        BUSY.argument("tell two wrong prices", x -> x.tell(0, 5, 100001));
        BUSY.argument("tell three wrong prices", x -> x.tell(0, 0, 0));
    }

    private static void eachWrongPrice(Refused start) {
        for (int wrong : WRONG_PRICES) {
            start.argument("tell the first price " + wrong, x -> x.tell(wrong, 4000, 5000));
            start.argument("tell the second price " + wrong, x -> x.tell(3000, wrong, 5000));
            start.argument("tell the third price " + wrong, x -> x.tell(3000, 4000, wrong));
        }
    }

    // "Throws IllegalStateException if today is 2000"
    private static void promise2TodayIs2000() {
        LAST.state("tell the lowest prices", x -> x.tell(1, 1, 1));
        LAST.state("tell some prices", x -> x.tell(3000, 4000, 5000));
        LAST.state("tell the highest prices", x -> x.tell(100000, 100000, 100000));
        Refused.on("the day 2000 without contracts", () -> Start.onDay(2000))
            .state("tell", x -> x.tell(3000, 4000, 5000));
    }

    private static void promise2PriceBeforeState() {
        eachWrongPrice(LAST);
    }

    // "Throws IllegalArgumentException if days is out of range"
    private static void promise3DaysOutOfRange() {
        for (Refused start : new Refused[] {NEW, BUSY, TEN}) {
            for (int wrong : WRONG_SPANS) {
                start.argument("pass " + wrong, x -> x.pass(wrong));
            }
        }
    }

    // "Throws IllegalStateException if the last of them would be above 2000"
    private static void promise3LastDayAbove2000() {
        LAST.state("pass(1)", x -> x.pass(1));
        LAST.state("pass(400)", x -> x.pass(400));
        BEFORE_LAST.state("pass(2)", x -> x.pass(2));
        BEFORE_LAST.state("pass(400)", x -> x.pass(400));
        for (int days : new int[] {30, 200, 399, 400}) {
            Refused.on("the day " + (2001 - days), () -> Start.onDay(2001 - days))
                .state("pass(" + days + ")", x -> x.pass(days));
        }
    }

    private static void promise3DaysBeforeState() {
        for (Refused start : new Refused[] {LAST, BEFORE_LAST}) {
            for (int wrong : WRONG_SPANS) {
                start.argument("pass " + wrong, x -> x.pass(wrong));
            }
        }
    }

    // "Throws IllegalArgumentException if an argument is out of range"
    private static void promise5ArgumentOutOfRange() {
        wrongOffers(NEW, 0);
        wrongOffers(BUSY, BUSY_DAY);
        wrongOffers(LAST, 2000);
    }

    private static void wrongOffers(Refused start, int today) {
        for (int wrong : WRONG_FUNDS) {
            start.argument("offer of the fund " + wrong + " on the day 0", x -> x.offer(wrong, 0));
            start.argument("offer of the fund " + wrong + " on today", x -> x.offer(wrong, today));
            start.argument("offer of the fund " + wrong + " on a wrong day", x -> x.offer(wrong, today + 1));
        }
        for (int wrong : new int[] {-1, today + 1, 2001, LOW, HIGH}) {
            for (int fund = 0; fund < 3; fund++) {
                int of = fund;
                start.argument("offer of " + of + " on the day " + wrong, x -> x.offer(of, wrong));
            }
        }
    }

    // "Throws IllegalArgumentException if an argument is out of range"
    private static void promise6ArgumentOutOfRange() {
        wrongMakes(NEW);
        wrongMakes(BUSY);
        wrongMakes(LAST);
    }

    private static void wrongMakes(Refused start) {
        for (int wrong : new int[] {99, 0, -100, 100001, LOW, HIGH}) {
            start.argument("make with the premium " + wrong, x -> x.make(wrong, 5000, 50, 1));
        }
        for (int wrong : new int[] {-1, 1000001, LOW, HIGH}) {
            start.argument("make with the sum " + wrong, x -> x.make(5000, wrong, 50, 1));
        }
        for (int wrong : new int[] {-1, 1001, LOW, HIGH}) {
            start.argument("make with the rate " + wrong, x -> x.make(5000, 5000, wrong, 1));
        }
        for (int wrong : WRONG_FUNDS) {
            start.argument("make with the fund " + wrong, x -> x.make(5000, 5000, 50, wrong));
        }
        start.argument("make with nothing in range", x -> x.make(99, -1, -1, -1));
    }

    // "Throws IllegalStateException if there are 10"
    private static void promise6ThereAreTen() {
        TEN.state("make", x -> x.make(5000, 5000, 50, 1));
        TEN.state("make the lowest", x -> x.make(100, 0, 0, 0));
        TEN.state("make the highest", x -> x.make(100000, 1000000, 1000, 2));
        Refused.on("an object with 10 contracts that have lapsed", RefusalsTest::tenLapsed)
            .state("make", x -> x.make(5000, 5000, 50, 1));
    }

    private static UnitContracts tenLapsed() {
        UnitContracts x = new UnitContracts();
        for (int i = 0; i < 10; i++) {
            x.make(100, 0, 0, 0);
        }
        Check.same("ten lapse", x.pass(30), 10);
        return x;
    }

    private static void promise6ArgumentBeforeState() {
        wrongMakes(TEN);
    }

    /** The contracts that are not there, for a call that takes a contract and is else in order. */
    private static void noSuchContract(String what, Asking call) {
        missing(what, NEW, 0, call);
        missing(what, BUSY, BUSY_CONTRACTS, call);
        missing(what, TEN, 10, call);
        missing(what, LAST, 2, call);
    }

    private static void missing(String what, Refused start, int contracts, Asking call) {
        for (int wrong : new int[] {-1, contracts, contracts + 1, LOW, HIGH}) {
            start.contract(what + " " + wrong, x -> call.ask(x, wrong));
        }
    }

    // "Throws IndexOutOfBoundsException if there is no such contract"
    private static void promise7NoSuchContract() {
        noSuchContract("pay", UnitContracts::pay);
    }

    // "Throws IllegalStateException if it is not in force"
    private static void promise7NotInForce() {
        notInForce("pay", UnitContracts::pay);
    }

    private static void notInForce(String what, Asking call) {
        BUSY.state(what + " of a lapsed one", x -> call.ask(x, BUSY_LAPSED));
        LAST.state(what + " of a lapsed one", x -> call.ask(x, LAST_LAPSED));
        Refused.on("the day of the lapse", RefusalsTest::tenLapsed)
            .state(what + " of one that lapsed today", x -> call.ask(x, 9));
    }

    private static void promise8NoSuchContract() {
        noSuchContract("change", (x, contract) -> x.change(contract, 0, 1, 50));
    }

    // "Throws IllegalArgumentException if from, to or percent is out of range, or both funds are the same"
    private static void promise8ArgumentOutOfRange() {
        for (int contract : new int[] {0, 2}) {
            wrongChanges("of " + contract, BUSY, contract);
        }
        wrongChanges("of the tenth", TEN, 9);
        wrongChanges("of 0", LAST, 0);
    }

    private static void wrongChanges(String whose, Refused start, int contract) {
        for (Consumer<UnitContracts> call : changesOutOfRange(contract)) {
            start.argument("change out of range " + whose, call);
        }
    }

    /** Each argument out of range by itself, both funds the same, and all at once. */
    private static List<Consumer<UnitContracts>> changesOutOfRange(int contract) {
        List<Consumer<UnitContracts>> calls = new ArrayList<>();
        for (int wrong : WRONG_FUNDS) {
            calls.add(x -> x.change(contract, wrong, 1, 50));
            calls.add(x -> x.change(contract, 0, wrong, 50));
            calls.add(x -> x.change(contract, wrong, wrong, 50));
        }
        for (int fund = 0; fund < 3; fund++) {
            int both = fund;
            calls.add(x -> x.change(contract, both, both, 1));
            calls.add(x -> x.change(contract, both, both, 100));
        }
        for (int wrong : WRONG_PERCENTS) {
            calls.add(x -> x.change(contract, 0, 1, wrong));
            calls.add(x -> x.change(contract, 2, 0, wrong));
            calls.add(x -> x.change(contract, -1, 3, wrong));
        }
        return calls;
    }

    private static void promise8NotInForce() {
        notInForce("change", (x, contract) -> x.change(contract, 0, 1, 50));
    }

    private static void promise8ContractBeforeArgument() {
        for (int contract : new int[] {-1, BUSY_CONTRACTS, LOW, HIGH}) {
            for (Consumer<UnitContracts> call : changesOutOfRange(contract)) {
                BUSY.contract("change out of range of the contract " + contract, call);
            }
        }
    }

    private static void promise8ArgumentBeforeState() {
        wrongChanges("of a lapsed one", BUSY, BUSY_LAPSED);
        wrongChanges("of a lapsed one", LAST, LAST_LAPSED);
    }

    private static void promise9NoSuchContract() {
        noSuchContract("backdate", (x, contract) -> x.backdate(contract, 0));
    }

    // "Throws IllegalArgumentException if day is out of range"
    private static void promise9DayOutOfRange() {
        for (int wrong : new int[] {-1, BUSY_DAY + 1, 2000, 2001, LOW, HIGH}) {
            BUSY.argument("backdate of 0 to the day " + wrong, x -> x.backdate(0, wrong));
            BUSY.argument("backdate of 2 to the day " + wrong, x -> x.backdate(2, wrong));
        }
        for (int wrong : new int[] {-1, 2001, LOW, HIGH}) {
            LAST.argument("backdate to the day " + wrong, x -> x.backdate(0, wrong));
        }
        Refused.on("the day 0", RefusalsTest::oneOnTheDay0)
            .argument("backdate to the day 1", x -> x.backdate(0, 1));
    }

    private static UnitContracts oneOnTheDay0() {
        UnitContracts x = new UnitContracts();
        x.make(1050, 0, 0, 0);
        return x;
    }

    private static void promise9NotInForce() {
        notInForce("backdate", (x, contract) -> x.backdate(contract, 0));
        notInForce("backdate to today", (x, contract) -> x.backdate(contract, x.today()));
    }

    private static void promise9ContractBeforeArgument() {
        for (int contract : new int[] {-1, BUSY_CONTRACTS, LOW, HIGH}) {
            for (int wrong : new int[] {-1, BUSY_DAY + 1, LOW, HIGH}) {
                BUSY.contract("backdate of " + contract + " to the day " + wrong, x -> x.backdate(contract, wrong));
            }
        }
    }

    private static void promise9ArgumentBeforeState() {
        for (int wrong : new int[] {-1, BUSY_DAY + 1, LOW, HIGH}) {
            BUSY.argument("backdate of a lapsed one to the day " + wrong, x -> x.backdate(BUSY_LAPSED, wrong));
        }
        LAST.argument("backdate of a lapsed one to the day 2001", x -> x.backdate(LAST_LAPSED, 2001));
    }

    private static void promise12NoSuchContract() {
        noSuchContract("isInForce", UnitContracts::isInForce);
    }

    private static void promise13NoSuchContract() {
        for (int fund = 0; fund < 3; fund++) {
            int of = fund;
            noSuchContract("units of the fund " + of + " of", (x, contract) -> x.units(contract, of));
        }
    }

    // "Throws IllegalArgumentException if fund is out of range"
    private static void promise13FundOutOfRange() {
        for (int wrong : WRONG_FUNDS) {
            BUSY.argument("units of the fund " + wrong, x -> x.units(0, wrong));
            BUSY.argument("units of a lapsed one of the fund " + wrong, x -> x.units(BUSY_LAPSED, wrong));
            TEN.argument("units of the tenth of the fund " + wrong, x -> x.units(9, wrong));
            LAST.argument("units of the fund " + wrong, x -> x.units(0, wrong));
        }
    }

    private static void promise13ContractBeforeArgument() {
        for (int wrong : WRONG_FUNDS) {
            noSuchContract("units of the fund " + wrong + " of", (x, contract) -> x.units(contract, wrong));
        }
    }

    private static void promise14NoSuchContract() {
        noSuchContract("initial", UnitContracts::initial);
    }

    private static void promise15NoSuchContract() {
        noSuchContract("worth", UnitContracts::worth);
    }

    private static void promise16NoSuchContract() {
        noSuchContract("paid", UnitContracts::paid);
    }

    // "Throws IllegalArgumentException if fund is out of range"
    private static void promise17FundOutOfRange() {
        for (Refused start : new Refused[] {NEW, BUSY, TEN, LAST}) {
            for (int wrong : WRONG_FUNDS) {
                start.argument("fundUnits of " + wrong, x -> x.fundUnits(wrong));
            }
        }
    }
}
