/** New objects with values already told, and programs that several tests tell. */
final class Houses {
    private Houses() {
    }

    /** Values of the classes that the text tells, a digit each; no registers. */
    static RegisterHouse of(String classes) {
        RegisterHouse house = new RegisterHouse();
        for (int v = 0; v < classes.length(); v++) {
            house.value(classes.charAt(v) - '0');
        }
        return house;
    }

    static RegisterHouse of(String classes, int registers0, int registers1) {
        RegisterHouse house = of(classes);
        house.registers(0, registers0);
        house.registers(1, registers1);
        return house;
    }

    /** Makes all of these values, then says all: each is in the way of each of its class. */
    static void crowd(RegisterHouse house, int... values) {
        for (int v : values) {
            house.put(0, v, v, 0);
        }
        for (int v : values) {
            house.put(9, v, 0, 0);
        }
    }

    /** The values 0 up to the one before the last. */
    static int[] upTo(int last) {
        int[] values = new int[last];
        for (int v = 0; v < last; v++) {
            values[v] = v;
        }
        return values;
    }

    /**
     * Says 1 to the last with values 0 to 2, of class 0: two steps and three more a turn; with three
     * registers as many items, without registers four items and nine more a turn.
     */
    static void counting(RegisterHouse house, int last) {
        house.put(0, 1, 1, 0);
        house.put(0, 2, last, 0);
        house.put(2, 0, 0, 1);
        house.put(9, 0, 0, 0);
        house.put(7, 0, 2, 2);
    }
}
