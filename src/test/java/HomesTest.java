/** Promises 10 and 11, and the slots of promise 12: home, order, count. */
final class HomesTest {
    private static final int NONE = RegisterHouse.NONE;
    private static final Due DUE = new Due("HomesTest");

    public static void main(String[] args) {
        wrongNumbers();
        orders();
        leastFree();
        joinedFirst();
        joinedOfOtherClass();
        joinedInTheWay();
        leastJoined();
        joinedSlots();
        slots();
        slotsOfClasses();
        changes();
        DUE.end();
    }

    private static void heavier(RegisterHouse house, int value, int more) {
        for (int k = 0; k < more; k++) {
            house.put(9, value, 0, 0);
        }
    }

    private static void homes(String what, RegisterHouse house, int... due) {
        for (int v = 0; v < due.length; v++) {
            DUE.is(what + ": home(" + v + ")", house.home(v), due[v]);
        }
        DUE.is(what + ": home behind the last", house.home(due.length), NONE);
    }

    private static void order(String what, RegisterHouse house, int... due) {
        for (int i = 0; i < due.length; i++) {
            DUE.is(what + ": order(" + i + ")", house.order(i), due[i]);
        }
        DUE.is(what + ": order behind the last", house.order(due.length), NONE);
    }

    private static void slotCounts(String what, RegisterHouse house, int of0, int of1) {
        DUE.is(what + ": count(4)", house.count(4), of0);
        DUE.is(what + ": count(5)", house.count(5), of1);
    }

    private static void wrongNumbers() {
        RegisterHouse house = Houses.of("01", 1, 1);
        for (int wrong : new int[] {Integer.MIN_VALUE, -1, 2, 24, Integer.MAX_VALUE}) {
            DUE.is("home(" + wrong + ")", house.home(wrong), NONE);
            DUE.is("order(" + wrong + ")", house.order(wrong), NONE);
        }
    }

    private static void orders() {
        RegisterHouse house = Houses.of("01010", 0, 0);
        order("no steps", house, 0, 1, 2, 3, 4);
        heavier(house, 3, 2);
        heavier(house, 1, 2);
        heavier(house, 4, 3);
        order("by weight, then number", house, 4, 1, 3, 0, 2);
        house.clear();
        heavier(house, 4, 1);
        heavier(house, 3, 2);
        heavier(house, 2, 3);
        heavier(house, 1, 4);
        heavier(house, 0, 5);
        order("as they stand", house, 0, 1, 2, 3, 4);
        house.clear();
        heavier(house, 4, 5);
        heavier(house, 3, 4);
        heavier(house, 2, 3);
        heavier(house, 1, 2);
        order("turned round", house, 4, 3, 2, 1, 0);
    }

    private static void leastFree() {
        RegisterHouse house = Houses.of("0000", 3, 0);
        homes("none in the way", house, 0, 0, 0, 0);
        Houses.crowd(house, 0, 1, 2, 3);
        homes("all in the way", house, 0, 1, 2, 100);
        heavier(house, 3, 2);
        heavier(house, 1, 1);
        homes("the heavy ones first", house, 2, 1, 100, 0);
        house.registers(0, 8);
        homes("eight registers", house, 2, 1, 3, 0);
    }

    /** 0 and 1 crowd registers 0 and 1; 2 is in nobody's way. */
    private static RegisterHouse twoAndOne(String classes, int registers) {
        RegisterHouse house = Houses.of(classes, registers, registers);
        Houses.crowd(house, 0, 1);
        heavier(house, 0, 5);
        heavier(house, 1, 2);
        return house;
    }

    private static void joinedFirst() {
        RegisterHouse house = twoAndOne("000", 2);
        homes("not joined", house, 0, 1, 0);
        house.put(1, 2, 1, 0);
        homes("2 becomes 1", house, 0, 1, 1);
        house = twoAndOne("000", 2);
        house.put(1, 1, 2, 0);
        // 2 is now live from the first step on, while 0 and 1 become anew
        homes("1 becomes 2, which is in the way", house, 0, 1, 100);
        house = twoAndOne("000", 2);
        house.put(0, 2, 5, 0);
        house.put(1, 1, 2, 0);
        house.put(9, 1, 0, 0);
        homes("1 becomes 2", house, 0, 1, 1);
        house.clear();
        Houses.crowd(house, 0, 1);
        homes("joined no more", house, 0, 1, 0);
    }

    private static void joinedOfOtherClass() {
        RegisterHouse house = Houses.of("0011", 3, 3);
        Houses.crowd(house, 0, 1);
        heavier(house, 0, 9);
        heavier(house, 1, 3);
        house.put(1, 2, 1, 0);
        homes("of other classes", house, 0, 1, 0, 0);
    }

    private static void joinedInTheWay() {
        RegisterHouse house = Houses.of("00", 3, 0);
        house.put(1, 1, 0, 0);
        house.put(0, 1, 7, 0);
        house.put(9, 0, 0, 0);
        house.put(9, 1, 0, 0);
        homes("joined, but in the way", house, 1, 0);
    }

    private static void leastJoined() {
        RegisterHouse house = Houses.of("0000", 4, 0);
        Houses.crowd(house, 0, 1, 2);
        heavier(house, 0, 9);
        heavier(house, 1, 8);
        heavier(house, 2, 7);
        house.put(1, 3, 2, 0);
        homes("one joined", house, 0, 1, 2, 2);
        // behind the end, so that 1 is not live behind the step before
        house.put(10, 0, 0, 0);
        house.put(1, 3, 1, 0);
        homes("the least of two joined", house, 0, 1, 2, 1);
    }

    /** A slot that a joined value has does not draw: only registers do. */
    private static void joinedSlots() {
        RegisterHouse house = Houses.of("0000", 0, 0);
        Houses.crowd(house, 0, 1, 2);
        heavier(house, 0, 9);
        heavier(house, 1, 8);
        house.put(1, 3, 1, 0);
        homes("no registers", house, 100, 101, 102, 100);
        house.registers(0, 1);
        homes("one register", house, 0, 100, 101, 0);
    }

    private static void slots() {
        RegisterHouse house = Houses.of("0000", 1, 0);
        slotCounts("a register for all", house, 0, 0);
        Houses.crowd(house, 0, 1, 2);
        homes("slots", house, 0, 100, 101, 0);
        slotCounts("slots", house, 2, 0);
        house.registers(0, 0);
        homes("slots only", house, 100, 101, 102, 100);
        slotCounts("slots only", house, 3, 0);
        house = Houses.of("000000000000000000000000", 8, 0);
        int[] due = new int[24];
        for (int v = 0; v < 24; v++) {
            due[v] = v < 8 ? v : 100 + v - 8;
        }
        Houses.crowd(house, Houses.upTo(24));
        homes("24 in the way", house, due);
        slotCounts("24 in the way", house, 16, 0);
    }

    private static void slotsOfClasses() {
        RegisterHouse house = Houses.of("0101", 0, 0);
        slotCounts("one for both, of each class", house, 1, 1);
        Houses.crowd(house, 0, 1, 2, 3);
        homes("of each class", house, 100, 100, 101, 101);
        slotCounts("of each class", house, 2, 2);
        house.registers(1, 1);
        homes("a register of class 1", house, 100, 0, 101, 100);
        slotCounts("a register of class 1", house, 2, 1);
    }

    /** Answers follow what is told later. */
    private static void changes() {
        RegisterHouse house = Houses.of("00", 1, 0);
        homes("first", house, 0, 0);
        Houses.crowd(house, 0, 1);
        homes("behind put", house, 0, 100);
        DUE.is("value", house.value(1), 2);
        homes("behind value", house, 0, 100, 100);
        house.registers(1, 1);
        homes("behind registers", house, 0, 100, 0);
        house.clear();
        homes("behind clear", house, 0, 0, 0);
    }
}
