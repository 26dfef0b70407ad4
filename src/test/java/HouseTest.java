/** Promises 17 and 18: fundUnits and charged. */
public final class HouseTest {
    private HouseTest() {
    }

    public static void main(String[] args) {
        promise17();
        promise18();
        promise18PartOfACharge();
        Check.end();
    }

    private static void promise17() {
        UnitContracts x = new UnitContracts();
        x.make(1050, 0, 0, 0);
        x.make(2100, 0, 0, 1);
        x.make(105, 0, 0, 1);
        x.backdate(0, 0);
        x.backdate(1, 0);
        x.pay(1);
        x.pay(2);
        x.change(0, 0, 1, 10);
        Check.same("fundUnits 0", x.fundUnits(0), 1000);
        Check.same("fundUnits 1", x.fundUnits(1), 2000);
        x.pass(1);
        Check.same("fundUnits 0", x.fundUnits(0), 900);
        Check.same("fundUnits 1 with initial ones", x.fundUnits(1), 2000 + 2000 + 100 + 100);
        Check.same("fundUnits 2", x.fundUnits(2), 0);
        x.pass(29);
        // The contract 2 lapses; the others pay 200 units each.
        Check.same("fundUnits 0 after the charge", x.fundUnits(0), 700);
        Check.same("fundUnits 1 after the charge", x.fundUnits(1), 1800 + 1980 + 100);
    }

    private static void promise18() {
        UnitContracts x = new UnitContracts();
        x.make(1050, 0, 0, 0);
        x.make(1050, 2000, 1000, 1);
        x.backdate(0, 0);
        x.backdate(1, 0);
        x.pass(29);
        Check.same("before a charge", x.charged(), 0);
        x.pass(1);
        // 1000 of 2000 are at risk in the contract 1.
        Check.same("after a charge", x.charged(), 200 + 210);
        x.backdate(0, 0);
        x.change(0, 0, 1, 50);
        x.pass(29);
        Check.same("deals are no charges", x.charged(), 410);
        x.pass(1);
        // 790 are the worth of the contract 1, so 1210 are at risk.
        Check.same("after another charge", x.charged(), 410 + 200 + 212);
    }

    private static void promise18PartOfACharge() {
        UnitContracts x = new UnitContracts();
        x.make(105, 1000000, 1000, 0);
        x.backdate(0, 0);
        x.pay(0);
        Check.same("lapses", x.pass(30), 1);
        Check.same("what was got, initial units not counted", x.charged(), 100);
        x.pass(90);
        Check.same("no more", x.charged(), 100);
    }
}
