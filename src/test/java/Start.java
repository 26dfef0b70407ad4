/** Objects that several tests begin with. */
final class Start {
    private Start() {
    }

    /** An object without contracts on a day, with the prices of the day 0. */
    static UnitContracts onDay(int day) {
        UnitContracts x = new UnitContracts();
        for (int left = day; left > 0; left -= 400) {
            x.pass(Math.min(left, 400));
        }
        return x;
    }

    /** A contract 0 of the fund 1 with the most units of it, on the day 3 with the prices 100000, 1, 1. */
    static UnitContracts full() {
        UnitContracts x = new UnitContracts();
        x.make(100000, 0, 0, 1);
        x.tell(1, 1, 1);
        x.backdate(0, 1);
        x.change(0, 1, 0, 100);
        x.tell(1, 100000, 1);
        Check.same("what would be more by a switch is lost", x.units(0, 0), 1000000000000L);
        x.change(0, 0, 1, 100);
        x.tell(100000, 1, 1);
        Check.same("a switch of the most units", x.units(0, 1), 1000000000000L);
        return x;
    }
}
