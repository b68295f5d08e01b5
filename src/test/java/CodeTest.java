/** Promises 12 and 13 for the code: count, item. */
final class CodeTest {
    private static final int NONE = RegisterHouse.NONE;
    private static final Due DUE = new Due("CodeTest");

    public static void main(String[] args) {
        counts();
        wrongItems();
        opsInRegisters();
        opsInSlots();
        secondFetch();
        onceFetched();
        oneSlotTwoValues();
        registerAndSlot();
        movesOfOneHome();
        leads();
        leadsToNoItems();
        askedInOrder();
        mostItems();
        DUE.end();
    }

    private static void counts() {
        RegisterHouse house = Houses.of("001", 0, 0);
        house.put(1, 1, 1, 0);
        house.put(9, 0, 0, 0);
        house.put(9, 0, 0, 0);
        house.put(10, 0, 0, 0);
        house.put(10, 0, 0, 0);
        house.put(10, 0, 0, 0);
        int[] due = {3, 6, 7, 5, 2, 1};
        for (int what = 0; what < due.length; what++) {
            DUE.is("count(" + what + ")", house.count(what), due[what]);
        }
        for (int what : new int[] {Integer.MIN_VALUE, -1, 6, 7, Integer.MAX_VALUE}) {
            DUE.is("count(" + what + ")", house.count(what), NONE);
        }
    }

    private static void wrongItems() {
        RegisterHouse house = Houses.of("0", 1, 0);
        house.put(9, 0, 0, 0);
        house.put(9, 0, 0, 0);
        for (int wrong : new int[] {Integer.MIN_VALUE, -1, 4, Integer.MAX_VALUE}) {
            DUE.is("item(" + wrong + ", 0, 0)", house.item(wrong, 0, 0), NONE);
            for (int which = 1; which <= 2; which++) {
                DUE.is("item(" + which + ", " + wrong + ", 0)", house.item(which, wrong, 0), NONE);
                DUE.is("item(" + which + ", 0, " + wrong + ")", house.item(which, 0, wrong), NONE);
            }
        }
        DUE.is("item(0, 0, 0)", house.item(0, 0, 0), NONE);
        DUE.is("item(3, 0, 0)", house.item(3, 0, 0), NONE);
        DUE.is("item(1, 1, 0)", house.item(1, 1, 0), 9);
        DUE.is("item(1, 2, 0)", house.item(1, 2, 0), NONE);
    }

    /**
     * Values 0, 1, 2 of class 0 and 3, 4 of class 1, each kind in the way of its like, and so much
     * lighter each than the one before that one step more does not change their order.
     */
    private static RegisterHouse apart(int registers0, int registers1) {
        RegisterHouse house = Houses.of("00011", registers0, registers1);
        for (int v = 0; v < 5; v++) {
            house.put(0, v, 0, 0);
        }
        int[] said = {9, 5, 1, 5, 1};
        for (int v = 0; v < 5; v++) {
            for (int k = 0; k < said[v]; k++) {
                house.put(9, v, 0, 0);
            }
        }
        house.put(10, 0, 0, 0);
        return house;
    }

    /** The items that one step more makes, with so many registers. */
    private static void makes(int registers0, int registers1, int[] step, int[]... due) {
        RegisterHouse house = apart(registers0, registers1);
        int from = house.count(2);
        String what = registers0 + ", " + registers1 + " registers, put(" + step[0] + ", " + step[1] + ", "
            + step[2] + ", " + step[3] + ")";
        house.put(step[0], step[1], step[2], step[3]);
        DUE.is(what + ": items", house.count(2) - from, due.length);
        for (int i = 0; i < due.length; i++) {
            for (int part = 0; part < 4; part++) {
                DUE.is(what + ": item " + i + ", " + part, house.item(1, from + i, part), due[i][part]);
            }
        }
    }

    private static int[] row(int... parts) {
        return parts;
    }

    private static void opsInRegisters() {
        makes(3, 2, row(0, 4, -9, 77), row(0, 17, -9, 0));
        makes(3, 2, row(1, 0, 1, 77), row(1, 0, 1, 0));
        makes(3, 2, row(1, 3, 2, 77), row(1, 16, 2, 0));
        makes(3, 2, row(2, 0, 1, 4), row(2, 0, 1, 17));
        makes(3, 2, row(3, 4, 3, 2), row(3, 17, 16, 2));
        makes(3, 2, row(4, 2, 1, 0), row(4, 2, 1, 0));
        makes(3, 2, row(5, 1, 4, 63), row(5, 1, 17, 63));
        makes(3, 2, row(6, 3, 4, 5), row(6, 16, 17, 5));
        makes(3, 2, row(7, 4, 1, 3), row(7, 17, 1, 3));
        makes(3, 2, row(8, 2, 77, 77), row(8, 2, 0, 0));
        makes(3, 2, row(9, 4, 77, 77), row(9, 17, 0, 0));
        makes(3, 2, row(10, 77, 77, 77), row(10, 0, 0, 0));
    }

    private static void opsInSlots() {
        makes(0, 0, row(0, 4, -9, 0), row(0, 24, -9, 0), row(12, 24, 1, 0));
        makes(0, 0, row(1, 0, 1, 0), row(11, 8, 1, 0), row(1, 8, 8, 0), row(12, 8, 0, 0));
        makes(0, 0, row(1, 3, 2, 0), row(11, 8, 2, 0), row(1, 24, 8, 0), row(12, 24, 0, 0));
        makes(0, 0, row(2, 0, 1, 4), row(11, 8, 1, 0), row(11, 24, 1, 0), row(2, 8, 8, 24), row(12, 8, 0, 0));
        makes(0, 0, row(4, 2, 1, 0), row(11, 8, 1, 0), row(11, 9, 0, 0), row(4, 8, 8, 9), row(12, 8, 2, 0));
        makes(0, 0, row(5, 1, 4, 63), row(11, 24, 1, 0), row(5, 8, 24, 63), row(12, 8, 1, 0));
        makes(0, 0, row(6, 2, 4, 5), row(11, 8, 2, 0), row(11, 24, 1, 0), row(6, 8, 24, 5));
        makes(0, 0, row(7, 0, 3, 1), row(11, 8, 0, 0), row(11, 24, 0, 0), row(7, 8, 24, 2));
        makes(0, 0, row(8, 2, 0, 0), row(8, 4, 0, 0));
        makes(0, 0, row(9, 4, 0, 0), row(11, 24, 1, 0), row(9, 24, 0, 0));
        makes(0, 0, row(10, 0, 0, 0), row(10, 0, 0, 0));
    }

    private static void secondFetch() {
        makes(0, 0, row(6, 3, 4, 5), row(11, 24, 0, 0), row(11, 25, 1, 0), row(6, 24, 25, 5));
        makes(0, 0, row(3, 0, 3, 4), row(11, 24, 0, 0), row(11, 25, 1, 0), row(3, 8, 24, 25), row(12, 8, 0, 0));
        makes(0, 0, row(7, 2, 1, 0), row(11, 8, 2, 0), row(11, 9, 1, 0), row(7, 8, 9, 0));
    }

    private static void onceFetched() {
        makes(0, 0, row(2, 0, 2, 2), row(11, 8, 2, 0), row(2, 8, 8, 8), row(12, 8, 0, 0));
        makes(0, 0, row(4, 2, 2, 2), row(11, 8, 2, 0), row(4, 8, 8, 8), row(12, 8, 2, 0));
        makes(0, 0, row(6, 4, 4, 1), row(11, 24, 1, 0), row(6, 24, 24, 1));
        makes(0, 0, row(7, 4, 4, 0), row(11, 24, 1, 0), row(7, 24, 24, 0));
    }

    /** Two values that are never made share a slot: two values all the same. */
    private static void oneSlotTwoValues() {
        RegisterHouse house = Houses.of("000", 0, 0);
        house.put(2, 2, 0, 1);
        DUE.items("one slot", house, 1, new int[][] {{11, 8, 0, 0}, {11, 9, 0, 0}, {2, 8, 8, 9}, {12, 8, 0, 0}});
    }

    /** 2 of class 0 and 4 of class 1 have slots, the others registers. */
    private static void registerAndSlot() {
        makes(2, 1, row(2, 0, 1, 2), row(11, 8, 0, 0), row(2, 0, 1, 8));
        makes(2, 1, row(2, 0, 2, 1), row(11, 8, 0, 0), row(2, 0, 8, 1));
        makes(2, 1, row(3, 2, 0, 4), row(11, 24, 0, 0), row(3, 8, 0, 24), row(12, 8, 0, 0));
        makes(2, 1, row(1, 2, 0, 0), row(1, 8, 0, 0), row(12, 8, 0, 0));
        makes(2, 1, row(1, 1, 2, 0), row(11, 8, 0, 0), row(1, 1, 8, 0));
        makes(2, 1, row(1, 3, 0, 0), row(1, 16, 0, 0));
        makes(2, 1, row(1, 2, 4, 0), row(11, 24, 0, 0), row(1, 8, 24, 0), row(12, 8, 0, 0));
    }

    private static void movesOfOneHome() {
        RegisterHouse house = Houses.of("0011", 1, 0);
        house.put(1, 0, 1, 0);
        house.put(1, 0, 0, 0);
        house.put(1, 2, 3, 0);
        house.put(1, 3, 3, 0);
        DUE.items("none", house, 1, new int[][] {});
        house.put(1, 2, 0, 0);
        DUE.items("of two classes", house, 1, new int[][] {{1, 24, 0, 0}, {12, 24, 0, 0}});
        house.registers(1, 1);
        DUE.items("of two classes in registers", house, 1, new int[][] {{1, 16, 0, 0}});
    }

    private static void leads() {
        RegisterHouse house = Houses.of("0", 0, 0);
        house.put(8, 3, 0, 0);
        house.put(9, 0, 0, 0);
        house.put(7, 0, 0, 1);
        house.put(0, 0, 4, 0);
        house.put(7, 0, 0, 60);
        house.put(8, 6, 0, 0);
        DUE.items("leads", house, 1, new int[][] {{8, 5, 0, 0}, {11, 8, 0, 0}, {9, 8, 0, 0}, {11, 8, 0, 0},
            {7, 8, 8, 1}, {0, 8, 4, 0}, {12, 8, 0, 0}, {11, 8, 0, 0}, {7, 8, 8, 10}, {8, 10, 0, 0}});
    }

    private static void leadsToNoItems() {
        RegisterHouse house = Houses.of("0", 1, 0);
        house.put(8, 1, 0, 0);
        house.put(1, 0, 0, 0);
        house.put(1, 0, 0, 0);
        house.put(9, 0, 0, 0);
        house.put(7, 0, 0, 5);
        house.put(1, 0, 0, 0);
        DUE.items("no items", house, 1, new int[][] {{8, 1, 0, 0}, {9, 0, 0, 0}, {7, 0, 0, 3}});
    }

    /** What is asked for first does not matter. */
    private static void askedInOrder() {
        RegisterHouse house = Houses.of("0", 0, 0);
        house.put(0, 0, 4, 0);
        house.put(9, 0, 0, 0);
        DUE.is("live", house.live(1), 1);
        DUE.is("inWay", house.inWay(0), 0);
        DUE.is("home", house.home(0), 100);
        DUE.items("code", house, 1, new int[][] {{0, 8, 4, 0}, {12, 8, 0, 0}, {11, 8, 0, 0}, {9, 8, 0, 0}});
        DUE.items("tidied", house, 2, new int[][] {{0, 8, 4, 0}, {12, 8, 0, 0}, {9, 8, 0, 0}});
        house.registers(0, 1);
        DUE.items("tidied", house, 2, new int[][] {{0, 0, 4, 0}, {9, 0, 0, 0}});
        DUE.items("code", house, 1, new int[][] {{0, 0, 4, 0}, {9, 0, 0, 0}});
        DUE.is("home", house.home(0), 0);
        DUE.is("live", house.live(1), 1);
    }

    private static void mostItems() {
        RegisterHouse house = Houses.of("000", 0, 0);
        for (int step = 0; step < 60; step++) {
            house.put(2, 0, 1, 2);
        }
        DUE.is("four items a step", house.count(2), 240);
        DUE.is("the last", house.item(1, 239, 0), 12);
        DUE.is("none behind it", house.item(1, 240, 0), NONE);
        DUE.is("tidied", house.count(3), 240);
    }
}
