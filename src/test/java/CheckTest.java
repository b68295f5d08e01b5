import java.lang.reflect.Field;

/** Promise 18: check. */
final class CheckTest {
    private static final Due DUE = new Due("CheckTest");

    public static void main(String[] args) throws ReflectiveOperationException {
        fine();
        latestStays();
        endless();
        codeCutOff();
        wouldTellZero();
        DUE.end();
    }

    private static void fine() {
        RegisterHouse house = Houses.of("");
        DUE.is("nothing", house.check(), 1);
        house = Houses.of("000");
        DUE.is("no steps", house.check(), 1);
        Houses.counting(house, 10);
        for (int many = 0; many <= 8; many++) {
            house.registers(0, many);
            DUE.is("registers " + many, house.check(), 1);
        }
    }

    private static void latestStays() {
        RegisterHouse house = Houses.of("000");
        house.memory(4, 44);
        Houses.counting(house, 7);
        DUE.is("check without a run", house.check(), 1);
        DUE.is("no run: made(0)", house.made(0), 0);
        DUE.is("no run: made(1)", house.made(1), 0);
        DUE.is("no run: said(0)", house.said(0), 0);
        DUE.is("no run: cell(4)", house.cell(4), 0);
        house.run(0, 6);
        house.memory(4, 45);
        DUE.is("check behind a run", house.check(), 1);
        DUE.is("run: made(0)", house.made(0), 6);
        DUE.is("run: made(1)", house.made(1), 1);
        DUE.is("run: said(1)", house.said(1), 0);
        DUE.is("run: cell(4)", house.cell(4), 44);
    }

    /** Steps that do not end with 300 granted are not asked for what they say. */
    private static void endless() {
        RegisterHouse house = Houses.of("000");
        house.put(9, 0, 0, 0);
        house.put(8, 0, 0, 0);
        DUE.is("endless", house.check(), 1);
        house.clear();
        Houses.counting(house, 100);
        DUE.is("302 steps", house.run(0, 301), 1);
        DUE.is("302 steps: check", house.check(), 1);
    }

    /** The steps end with 300 granted; the code, which is longer, does not, and has said or left less by then. */
    private static void codeCutOff() {
        for (int turns : new int[] {32, 33, 34, 98}) {
            RegisterHouse house = Houses.of("0001");
            Houses.counting(house, turns);
            house.put(6, 0, 3, 0);
            DUE.is(turns + " turns: the steps end", house.run(0, 300), 0);
            DUE.is(turns + " turns: the code ends", house.run(1, 300), turns < 33 ? 0 : 1);
            DUE.is(turns + " turns in slots", house.check(), 1);
            house.registers(0, 3);
            DUE.is(turns + " turns in registers", house.check(), 1);
        }
    }

    /**
     * Says 5, says 6, and leaves 6 in cells 0 and 63: the values for that, 0 in register 1 and 1, the
     * heavier one, in register 0, are in each other's way.
     */
    private static RegisterHouse twoSaid() {
        RegisterHouse house = Houses.of("00011", 3, 1);
        house.put(0, 0, 5, 0);
        house.put(0, 1, 6, 0);
        house.put(9, 0, 0, 0);
        house.put(9, 1, 0, 0);
        house.put(6, 1, 3, 0);
        house.put(6, 1, 3, 63);
        house.put(0, 2, 0, 0);
        DUE.is("as it should be", house.check(), 1);
        return house;
    }

    /** No call brings about what check looks for, so it is put into the object by hand. */
    private static void wouldTellZero() throws ReflectiveOperationException {
        RegisterHouse house = twoSaid();
        DUE.is("in each other's way", house.inWay(0), 0b010);
        row(house, "homes", "places")[2] = house.home(0);
        DUE.is("one home for two not in each other's way", house.check(), 1);
        row(house, "homes", "places")[0] = house.home(1);
        DUE.is("one home for two in each other's way", house.check(), 0);
        tellsZero("the first said is another", 0, "ys", 7);
        tellsZero("the second said is another", 3, "xs", 1);
        tellsZero("one less is said", 3, "ops", 1);
        tellsZero("one more is said", 6, "ops", 9);
        tellsZero("cell 0 is another", 4, "xs", 1);
        tellsZero("cell 63 is another", 5, "xs", 1);
        tellsZero("cell 62 is left in place of 63", 5, "zs", 62);
    }

    private static void tellsZero(String what, int item, String row, int wrong) throws ReflectiveOperationException {
        RegisterHouse house = twoSaid();
        row(house, "code", row)[item] = wrong;
        DUE.is(what, house.check(), 0);
    }

    private static int[] row(RegisterHouse house, String part, String row) throws ReflectiveOperationException {
        Field partField = RegisterHouse.class.getDeclaredField(part);
        partField.setAccessible(true);
        Object inside = partField.get(house);
        Field rowField = inside.getClass().getDeclaredField(row);
        rowField.setAccessible(true);
        return (int[]) rowField.get(inside);
    }
}
