/** New objects with values already told. */
final class Houses {
    private Houses() {
    }

    /** Values of the classes that the text tells, a digit each; no registers. */
    static RegisterHouse of(String classes) {
        RegisterHouse house = new RegisterHouse();
        for (int v = 0; v < classes.length(); v++) {
            house.value(classes.charAt(v) - '0');
        }
        return house;
    }

    static RegisterHouse of(String classes, int registers0, int registers1) {
        RegisterHouse house = of(classes);
        house.registers(0, registers0);
        house.registers(1, registers1);
        return house;
    }
}
