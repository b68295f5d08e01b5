/** Promise 18: check. */
final class CheckTest {
    private static final Due DUE = new Due("CheckTest");

    public static void main(String[] args) {
        fine();
        latestStays();
        endless();
        codeCutOff();
        codeCutOffBeforeMemory();
        codeCutOffForNothing();
        DUE.end();
    }

    private static void fine() {
        RegisterHouse house = Houses.of("");
        DUE.is("nothing", house.check(), 1);
        house = Houses.of("000");
        DUE.is("no steps", house.check(), 1);
        Houses.counting(house, 10);
        for (int many = 0; many <= 8; many++) {
            house.registers(0, many);
            DUE.is("registers " + many, house.check(), 1);
        }
    }

    private static void latestStays() {
        RegisterHouse house = Houses.of("000");
        house.memory(4, 44);
        Houses.counting(house, 7);
        DUE.is("check without a run", house.check(), 1);
        DUE.is("no run: made(0)", house.made(0), 0);
        DUE.is("no run: made(1)", house.made(1), 0);
        DUE.is("no run: said(0)", house.said(0), 0);
        DUE.is("no run: cell(4)", house.cell(4), 0);
        house.run(0, 6);
        house.memory(4, 45);
        DUE.is("check behind a run", house.check(), 1);
        DUE.is("run: made(0)", house.made(0), 6);
        DUE.is("run: made(1)", house.made(1), 1);
        DUE.is("run: said(1)", house.said(1), 0);
        DUE.is("run: cell(4)", house.cell(4), 44);
    }

    /** Steps that do not end with 300 granted are not asked for what they say. */
    private static void endless() {
        RegisterHouse house = Houses.of("000");
        house.put(9, 0, 0, 0);
        house.put(8, 0, 0, 0);
        DUE.is("endless", house.check(), 1);
        house.clear();
        Houses.counting(house, 100);
        DUE.is("302 steps", house.run(0, 301), 1);
        DUE.is("302 steps: check", house.check(), 1);
    }

    /** The steps end with 300 granted, the code does not come so far: it says less. */
    private static void codeCutOff() {
        RegisterHouse house = Houses.of("000");
        Houses.counting(house, 99);
        DUE.is("299 steps", house.run(0, 299), 0);
        DUE.is("299 steps in slots", house.check(), 0);
        house.registers(0, 3);
        DUE.is("299 items", house.run(1, 299), 0);
        DUE.is("299 steps in registers", house.check(), 1);
        house.put(9, 0, 0, 0);
        DUE.is("300 steps in registers", house.check(), 1);
        house.registers(0, 0);
        DUE.is("300 steps in slots", house.check(), 0);
        house.put(9, 0, 0, 0);
        DUE.is("301 steps in slots, which do not end with 300 granted", house.check(), 1);
    }

    /** Nothing is said, but the code is cut off before it has left anything, in cell 0 alone. */
    private static void codeCutOffBeforeMemory() {
        RegisterHouse house = Houses.of("000");
        house.value(1);
        house.put(0, 1, 1, 0);
        house.put(0, 2, 99, 0);
        house.put(2, 0, 0, 1);
        house.put(7, 0, 2, 2);
        house.put(6, 0, 3, 0);
        DUE.is("left in cell 0", house.check(), 0);
        house.registers(0, 3);
        DUE.is("left in cell 0, by registers", house.check(), 1);
    }

    /** The code is cut off, but has said and left all by then. */
    private static void codeCutOffForNothing() {
        RegisterHouse house = Houses.of("000");
        house.put(0, 1, 1, 0);
        house.put(0, 2, 99, 0);
        house.put(2, 0, 0, 1);
        house.put(7, 0, 2, 2);
        DUE.is("200 steps", house.run(0, 200), 0);
        DUE.is("more items than 300", house.run(1, 300), 1);
        DUE.is("nothing is said or left", house.check(), 1);
    }
}
