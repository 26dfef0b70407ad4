import java.util.List;
import java.util.function.Consumer;
import java.util.function.Supplier;

/**
 * Calls that are refused: each is made on an object of its own, must throw what is due, and must change
 * nothing, so that the object then shows what a twin shows on which the call was never made.
 */
final class Refused {
    private final String name;
    private final Supplier<UnitContracts> start;

    private Refused(String name, Supplier<UnitContracts> start) {
        this.name = name;
        this.start = start;
    }

    static Refused on(String name, Supplier<UnitContracts> start) {
        return new Refused(name, start);
    }

    void contract(String what, Consumer<UnitContracts> call) {
        refused(what, IndexOutOfBoundsException.class, call);
    }

    void argument(String what, Consumer<UnitContracts> call) {
        refused(what, IllegalArgumentException.class, call);
    }

    void state(String what, Consumer<UnitContracts> call) {
        refused(what, IllegalStateException.class, call);
    }

    private void refused(String what, Class<?> due, Consumer<UnitContracts> call) {
        String told = what + " on " + name;
        UnitContracts x = start.get();
        Check.throwing(told, due, () -> call.accept(x));
        List<String> got = Later.shownBy(x);
        List<String> untouched = Later.shownBy(start.get());
        Check.same(told + ": how much later calls show", got.size(), untouched.size());
        for (int i = 0; i < Math.min(got.size(), untouched.size()); i++) {
            if (!got.get(i).equals(untouched.get(i))) {
                Check.yes(told + ": later " + got.get(i) + ", and without it " + untouched.get(i)
                    + "; that it changes nothing", false);
                return;
            }
        }
        Check.yes(told + " changes nothing", true);
    }
}
