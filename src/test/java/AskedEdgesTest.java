/** The edges of promises 7 to 13, each under its own words. */
final class AskedEdgesTest {
    private static final int NONE = RegisterHouse.NONE;
    private static final int LEAST = Integer.MIN_VALUE;
    private static final int MOST = Integer.MAX_VALUE;
    private static final String ALL_OF_0 = "000000000000000000000000";
    private static final String ALL_OF_1 = "111111111111111111111111";
    private static final String[] CLASSES = {ALL_OF_0, ALL_OF_1};
    private static final Due DUE = new Due("AskedEdgesTest");

    public static void main(String[] args) {
        liveOfFirstAndLast();
        liveOfNoStep();
        inWayOfFirstAndLast();
        inWayOfNoValue();
        leastAndMostWeight();
        weightOfNoValue();
        firstAndLastHome();
        homeOfNoValue();
        firstAndLastInOrder();
        orderOfNone();
        countsOfNothing();
        countsOfMost();
        otherCounts();
        firstAndLastItem();
        noSuchItem();
        noItems();
        DUE.end();
    }

    /** 24 values, each in the way of each: the first made and said first, the last last. */
    private static RegisterHouse full(String classes, int registers) {
        RegisterHouse house = Houses.of(classes, registers, registers);
        Houses.crowd(house, Houses.upTo(24));
        return house;
    }

    private static void liveOfFirstAndLast() {
        DUE.edge("Promise 7", "Bits of the values that are live before a step");
        RegisterHouse house = new RegisterHouse();
        house.put(8, 1, 0, 0);
        house.put(10, 0, 0, 0);
        DUE.is("no values: live(0)", house.live(0), 0);
        DUE.is("no values: live(1)", house.live(1), 0);
        for (String classes : CLASSES) {
            house = full(classes, 0);
            DUE.is("the first of 48: live(0)", house.live(0), 0);
            DUE.is("value 0 alone: live(1)", house.live(1), 1);
            DUE.is("all but value 23: live(23)", house.live(23), 0x7fffff);
            DUE.is("all: live(24)", house.live(24), 0xffffff);
            DUE.is("value 23 alone: live(47)", house.live(47), 0x800000);
        }
        house = Houses.of(ALL_OF_0);
        for (int step = 0; step < 60; step++) {
            house.put(9, step < 59 ? 0 : 23, 0, 0);
        }
        DUE.is("the first of 60: live(0)", house.live(0), 0x800001);
        DUE.is("the last of 60: live(59)", house.live(59), 0x800000);
    }

    private static void liveOfNoStep() {
        DUE.edge("Promise 7", "NONE when there is no such step.");
        RegisterHouse house = Houses.of(ALL_OF_0);
        DUE.is("values, no steps: live(0)", house.live(0), NONE);
        DUE.is("values, no steps: live(-1)", house.live(-1), NONE);
        for (int step = 0; step < 60; step++) {
            house.put(9, 0, 0, 0);
            DUE.is("the last: live(" + step + ")", house.live(step), 1);
            DUE.is("behind it: live(" + (step + 1) + ")", house.live(step + 1), NONE);
        }
        for (int wrong : new int[] {LEAST, -1, 60, 61, MOST}) {
            DUE.is("60 steps: live(" + wrong + ")", house.live(wrong), NONE);
        }
        house.clear();
        DUE.is("cleared: live(0)", house.live(0), NONE);
        DUE.is("cleared: live(59)", house.live(59), NONE);
    }

    private static void inWayOfFirstAndLast() {
        DUE.edge("Promise 8", "Bits of the values in the way of a value");
        for (String classes : CLASSES) {
            RegisterHouse house = Houses.of(classes);
            DUE.is("no steps: inWay(0)", house.inWay(0), 0);
            DUE.is("no steps: inWay(23)", house.inWay(23), 0);
            house = full(classes, 0);
            DUE.is("all: inWay(0)", house.inWay(0), 0xfffffe);
            DUE.is("all: inWay(23)", house.inWay(23), 0x7fffff);
            house.clear();
            DUE.is("cleared: inWay(0)", house.inWay(0), 0);
            Houses.crowd(house, 23, 0);
            DUE.is("the last made first: inWay(0)", house.inWay(0), 0x800000);
            DUE.is("the last made first: inWay(22)", house.inWay(22), 0);
            DUE.is("the last made first: inWay(23)", house.inWay(23), 1);
        }
        RegisterHouse house = Houses.of("01");
        Houses.crowd(house, 0, 1);
        DUE.is("the other class: inWay(0)", house.inWay(0), 0);
        DUE.is("the other class: inWay(1)", house.inWay(1), 0);
    }

    private static void inWayOfNoValue() {
        DUE.edge("Promise 8", "NONE when there is no such value.");
        RegisterHouse house = new RegisterHouse();
        DUE.is("no values: inWay(0)", house.inWay(0), NONE);
        for (int v = 0; v < 24; v++) {
            house.value(v % 2);
            DUE.is("the last: inWay(" + v + ")", house.inWay(v), 0);
            DUE.is("behind it: inWay(" + (v + 1) + ")", house.inWay(v + 1), NONE);
        }
        for (int wrong : new int[] {LEAST, -1, 24, 25, MOST}) {
            DUE.is("24 values: inWay(" + wrong + ")", house.inWay(wrong), NONE);
        }
    }

    private static void leastAndMostWeight() {
        DUE.edge("Promise 9", "The weight of a value");
        RegisterHouse house = Houses.of(ALL_OF_0);
        DUE.is("no steps: weight(0)", house.weight(0), 0);
        DUE.is("no steps: weight(23)", house.weight(23), 0);
        for (int step = 0; step < 60; step++) {
            house.put(4, 23, 23, 23);
        }
        DUE.is("three times in each of 60: weight(23)", house.weight(23), 180);
        DUE.is("in none: weight(0)", house.weight(0), 0);
        house.clear();
        DUE.is("cleared: weight(23)", house.weight(23), 0);
        // numbers that name no value do not count as one
        house.put(0, 1, 2, 2);
        house.put(8, 2, 2, 2);
        house.put(10, 2, 2, 2);
        DUE.is("numbers: weight(2)", house.weight(2), 0);
    }

    private static void weightOfNoValue() {
        DUE.edge("Promise 9", "NONE when there is none such.");
        RegisterHouse house = new RegisterHouse();
        DUE.is("no values: weight(0)", house.weight(0), NONE);
        for (int v = 0; v < 24; v++) {
            house.value(v % 2);
            DUE.is("the last: weight(" + v + ")", house.weight(v), 0);
            DUE.is("behind it: weight(" + (v + 1) + ")", house.weight(v + 1), NONE);
        }
        for (int wrong : new int[] {LEAST, -1, 24, 25, MOST}) {
            DUE.is("24 values: weight(" + wrong + ")", house.weight(wrong), NONE);
        }
    }

    private static void firstAndLastHome() {
        DUE.edge("Promise 10", "The home of a value: the number of a register, or 100 and that of a slot");
        for (String classes : CLASSES) {
            RegisterHouse house = Houses.of(classes);
            DUE.is("no steps, no registers: home(0)", house.home(0), 100);
            DUE.is("no steps, no registers: home(23)", house.home(23), 100);
            house = Houses.of(classes, 8, 8);
            DUE.is("no steps: home(0)", house.home(0), 0);
            DUE.is("no steps: home(23)", house.home(23), 0);
            for (int registers : new int[] {0, 1, 7, 8}) {
                house = full(classes, registers);
                for (int v = 0; v < 24; v++) {
                    DUE.is(registers + " registers: home(" + v + ")", house.home(v),
                        v < registers ? v : 100 + v - registers);
                }
            }
        }
    }

    private static void homeOfNoValue() {
        DUE.edge("Promise 10", "NONE when there is no such value.");
        RegisterHouse house = new RegisterHouse();
        DUE.is("no values: home(0)", house.home(0), NONE);
        for (int v = 0; v < 24; v++) {
            house.value(v % 2);
            DUE.is("the last: home(" + v + ")", house.home(v), 100);
            DUE.is("behind it: home(" + (v + 1) + ")", house.home(v + 1), NONE);
        }
        for (int wrong : new int[] {LEAST, -1, 24, 25, 100, MOST}) {
            DUE.is("24 values: home(" + wrong + ")", house.home(wrong), NONE);
        }
    }

    private static void firstAndLastInOrder() {
        DUE.edge("Promise 11", "The value that gets its home i-th, counted from 0");
        RegisterHouse house = Houses.of(ALL_OF_0);
        for (int i = 0; i < 24; i++) {
            DUE.is("no steps: order(" + i + ")", house.order(i), i);
        }
        house.put(9, 23, 0, 0);
        DUE.is("the last before all: order(0)", house.order(0), 23);
        DUE.is("the last before all: order(1)", house.order(1), 0);
        DUE.is("the last before all: order(23)", house.order(23), 22);
        for (int v = 1; v < 23; v++) {
            house.put(9, v, 0, 0);
        }
        DUE.is("the first behind all: order(0)", house.order(0), 1);
        DUE.is("the first behind all: order(23)", house.order(23), 0);
    }

    private static void orderOfNone() {
        DUE.edge("Promise 11", "NONE when there is none such.");
        RegisterHouse house = new RegisterHouse();
        DUE.is("no values: order(0)", house.order(0), NONE);
        house.put(10, 0, 0, 0);
        DUE.is("a step, no values: order(0)", house.order(0), NONE);
        for (int v = 0; v < 24; v++) {
            house.value(v % 2);
            DUE.is("the last: order(" + v + ")", house.order(v), v);
            DUE.is("behind it: order(" + (v + 1) + ")", house.order(v + 1), NONE);
        }
        for (int wrong : new int[] {LEAST, -1, 24, 25, MOST}) {
            DUE.is("24 values: order(" + wrong + ")", house.order(wrong), NONE);
        }
    }

    private static void counts(String what, RegisterHouse house, int... due) {
        for (int k = 0; k < 6; k++) {
            DUE.is(what + ": count(" + k + ")", house.count(k), due[k]);
        }
    }

    private static void countsOfNothing() {
        DUE.edge("Promise 12", "How many values (what 0), steps (1), items (2), items of the tidied code (3), "
            + "slots that are homes (4: of class 0, 5: of class 1) there are");
        RegisterHouse house = new RegisterHouse();
        counts("nothing", house, 0, 0, 0, 0, 0, 0);
        house.put(10, 0, 0, 0);
        house.put(10, 0, 0, 0);
        counts("no values", house, 0, 2, 2, 1, 0, 0);
        house = Houses.of("0");
        counts("one of class 0, no steps", house, 1, 0, 0, 0, 1, 0);
        house.value(1);
        counts("one of each, no steps", house, 2, 0, 0, 0, 1, 1);
        house.registers(0, 1);
        counts("a register of class 0", house, 2, 0, 0, 0, 0, 1);
        house.registers(1, 1);
        counts("a register of each", house, 2, 0, 0, 0, 0, 0);
        house.put(1, 0, 0, 0);
        counts("a step without items", house, 2, 1, 0, 0, 0, 0);
        house.clear();
        counts("cleared", house, 2, 0, 0, 0, 0, 0);
    }

    private static void countsOfMost() {
        DUE.edge("Promise 12", "How many values (what 0), steps (1), items (2), items of the tidied code (3), "
            + "slots that are homes (4: of class 0, 5: of class 1) there are");
        counts("24 slots of class 0", full(ALL_OF_0, 0), 24, 48, 24 * 4, 24 * 4, 24, 0);
        counts("24 slots of class 1", full(ALL_OF_1, 0), 24, 48, 24 * 4, 24 * 4, 0, 24);
        counts("16 slots of class 0", full(ALL_OF_0, 8), 24, 48, 8 * 2 + 16 * 4, 8 * 2 + 16 * 4, 16, 0);
        RegisterHouse house = Houses.of("000");
        for (int step = 0; step < 60; step++) {
            house.put(2, 0, 1, 2);
        }
        // 0 becomes anew while 1 and 2, which are never made, are live behind it
        counts("four items for each of 60", house, 3, 60, 240, 240, 2, 0);
        house = Houses.of("0");
        for (int step = 0; step < 60; step++) {
            house.put(10, 0, 0, 0);
        }
        counts("59 of 60 taken away", house, 1, 60, 60, 1, 1, 0);
    }

    private static void otherCounts() {
        DUE.edge("Promise 12", "NONE for others.");
        for (RegisterHouse house : new RegisterHouse[] {new RegisterHouse(), full(ALL_OF_0, 1)}) {
            for (int what : new int[] {LEAST, -2, -1, 6, 7, 100, MOST}) {
                DUE.is("count(" + what + ")", house.count(what), NONE);
            }
        }
    }

    /** Three items, of which the tidied code has two. */
    private static RegisterHouse threeItems() {
        RegisterHouse house = Houses.of("0", 1, 0);
        house.put(7, 0, 0, 2);
        house.put(8, 2, 0, 0);
        house.put(0, 0, -9, 0);
        return house;
    }

    private static void firstAndLastItem() {
        DUE.edge("Promise 13", "Op, x, y or z (what 0 to 3) of item i of the code (which 1) or the tidied code (2)");
        DUE.items("code", threeItems(), 1, new int[][] {{7, 0, 0, 2}, {8, 2, 0, 0}, {0, 0, -9, 0}});
        DUE.items("tidied", threeItems(), 2, new int[][] {{7, 0, 0, 1}, {0, 0, -9, 0}});
        RegisterHouse house = Houses.of("0");
        for (int step = 0; step < 60; step++) {
            house.put(2, 0, 0, 0);
        }
        for (int which = 1; which <= 2; which++) {
            int last = house.count(which + 1) - 1;
            DUE.is("the last of " + which, last, which == 1 ? 179 : 120);
            for (int what = 0; what < 4; what++) {
                DUE.is("the first of " + which, house.item(which, 0, what), what == 0 ? 11 : what == 1 ? 8 : 0);
                DUE.is("the last of " + which, house.item(which, last, what), what == 0 ? 12 : what == 1 ? 8 : 0);
            }
        }
        house = Houses.of("000");
        for (int step = 0; step < 60; step++) {
            house.put(2, 0, 1, 2);
        }
        DUE.is("the last of 240", house.item(1, 239, 0), 12);
        DUE.is("none behind 240", house.item(1, 240, 0), NONE);
        DUE.is("none behind 240 tidied", house.item(2, 240, 0), NONE);
    }

    private static void noSuchItem() {
        DUE.edge("Promise 13", "NONE when there is none such.");
        RegisterHouse house = threeItems();
        for (int which : new int[] {LEAST, -1, 0, 3, 4, MOST}) {
            DUE.is("item(" + which + ", 0, 0)", house.item(which, 0, 0), NONE);
        }
        for (int which = 1; which <= 2; which++) {
            for (int i : new int[] {LEAST, -1, 4 - which, MOST}) {
                for (int what = 0; what < 4; what++) {
                    DUE.is("item(" + which + ", " + i + ", " + what + ")", house.item(which, i, what), NONE);
                }
            }
            for (int what : new int[] {LEAST, -1, 4, 5, MOST}) {
                DUE.is("item(" + which + ", 0, " + what + ")", house.item(which, 0, what), NONE);
                DUE.is("item(" + which + ", 1, " + what + ")", house.item(which, 1, what), NONE);
            }
        }
    }

    private static void noItems() {
        DUE.edge("Promise 13", "NONE when there is none such.");
        RegisterHouse house = threeItems();
        house.count(3);
        house.clear();
        DUE.items("cleared", house, 1, new int[][] {});
        DUE.items("cleared, tidied", house, 2, new int[][] {});
        house.put(1, 0, 0, 0);
        DUE.items("a step without items", house, 1, new int[][] {});
        DUE.items("a step without items, tidied", house, 2, new int[][] {});
    }
}
