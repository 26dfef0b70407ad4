import java.util.ArrayList;
import java.util.List;
import java.util.function.LongSupplier;

/**
 * What later calls of an object show: every question of the face, the next day and its questions, and the
 * next charge after more contracts, orders and repairs. Two objects that show the same hold the same.
 */
final class Later {
    // With what a test has called before, an object stays within the 512 calls that are promised.
    private static final int MOST_SHOWN = 300;

    private final UnitContracts x;
    private final List<String> shown = new ArrayList<>();

    private Later(UnitContracts x) {
        this.x = x;
    }

    static List<String> shownBy(UnitContracts x) {
        Later later = new Later(x);
        later.ask();
        later.goOn();
        Check.yes("the calls stay within what is promised", later.shown.size() <= MOST_SHOWN);
        return later.shown;
    }

    private void goOn() {
        show("pass(1)", () -> x.pass(1));
        ask();
        show("make", () -> x.make(777, 88888, 99, 1));
        int last = x.contracts() - 1;
        show("backdate of the last", () -> x.backdate(last, 0));
        show("pay of the last", () -> x.pay(last));
        show("pay of the first", () -> x.pay(0));
        show("change of the first", () -> x.change(0, 0, 2, 50));
        show("tell", () -> x.tell(1234, 567, 8901));
        show("pass to the next charge", () -> x.pass(30 - x.today() % 30));
        ask();
    }

    private void ask() {
        int today = x.today();
        int contracts = x.contracts();
        show("today", () -> today);
        show("contracts", () -> contracts);
        show("waiting", x::waiting);
        show("charged", x::charged);
        show("madeGood", x::madeGood);
        for (int i = 0; i < 3; i++) {
            int fund = i;
            show("fundUnits of " + fund, () -> x.fundUnits(fund));
            show("offer on the first day", () -> x.offer(fund, 0));
            for (int j = -1; j <= 1; j++) {
                int day = today + j;
                show("offer on the day " + day, () -> x.offer(fund, day));
            }
        }
        for (int i = 0; i < contracts; i++) {
            askContract(i);
        }
    }

    private void askContract(int number) {
        show("isInForce of " + number, () -> x.isInForce(number) ? 1 : 0);
        show("initial of " + number, () -> x.initial(number));
        show("worth of " + number, () -> x.worth(number));
        show("paid of " + number, () -> x.paid(number));
        for (int i = 0; i < 3; i++) {
            int fund = i;
            show("units of " + number + " in " + fund, () -> x.units(number, fund));
        }
    }

    private void show(String what, LongSupplier call) {
        String answer;
        try {
            answer = String.valueOf(call.getAsLong());
        } catch (RuntimeException e) {
            answer = e.getClass().getSimpleName();
        }
        shown.add(what + ": " + answer);
    }
}
