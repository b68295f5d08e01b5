/** Promises 1 to 6: a new object, value, put, clear, registers, memory. */
final class ToldTest {
    private static final int NONE = RegisterHouse.NONE;
    private static final int[] FAR = {Integer.MIN_VALUE, -2, -1, 61, 64, 100, Integer.MAX_VALUE};
    private static final Due DUE = new Due("ToldTest");

    public static void main(String[] args) {
        newObject();
        values();
        valuesOfOps();
        classesOfOps();
        numbersOfOps();
        whatDoesNotMatter();
        mostSteps();
        clearing();
        registers();
        memory();
        DUE.end();
    }

    private static void newObject() {
        RegisterHouse house = new RegisterHouse();
        for (int what = 0; what < 6; what++) {
            DUE.is("new: count(" + what + ")", house.count(what), 0);
        }
        DUE.is("new: live(0)", house.live(0), NONE);
        DUE.is("new: home(0)", house.home(0), NONE);
        DUE.is("new: item(1, 0, 0)", house.item(1, 0, 0), NONE);
        DUE.is("new: made(0)", house.made(0), 0);
        DUE.is("new: run(0, 0)", house.run(0, 0), 0);
        for (int k = 0; k < 64; k++) {
            DUE.is("new: cell(" + k + ")", house.cell(k), 0);
        }
        DUE.is("new: check()", house.check(), 1);
        house.value(0);
        house.value(1);
        DUE.is("new: no registers of class 0", house.home(0), 100);
        DUE.is("new: no registers of class 1", house.home(1), 100);
    }

    private static void values() {
        RegisterHouse house = new RegisterHouse();
        for (int c : new int[] {-1, 2, 3, Integer.MIN_VALUE, Integer.MAX_VALUE}) {
            DUE.is("value(" + c + ")", house.value(c), NONE);
        }
        DUE.is("no values", house.count(0), 0);
        for (int v = 0; v < 24; v++) {
            DUE.is("value, number " + v, house.value(v % 2), v);
        }
        DUE.is("value(0) behind 24", house.value(0), NONE);
        DUE.is("value(1) behind 24", house.value(1), NONE);
        DUE.is("24 values", house.count(0), 24);
    }

    /** Values 0 and 1 are of class 0, 2 and 3 of class 1. */
    private static RegisterHouse fourValues() {
        return Houses.of("0011");
    }

    private static void putIs(RegisterHouse house, int op, int[] abc, boolean fine) {
        int before = house.count(1);
        DUE.is("put(" + op + ", " + abc[0] + ", " + abc[1] + ", " + abc[2] + ")",
            house.put(op, abc[0], abc[1], abc[2]), fine ? before : NONE);
        DUE.is("steps then", house.count(1), fine ? before + 1 : before);
    }

    /** Where an op names a value, one that there is not is refused. */
    private static void valuesOfOps() {
        String[] named = {"a", "ab", "abc", "abc", "abc", "ab", "ab", "ab", "", "a", ""};
        for (int op = 0; op <= 10; op++) {
            for (int place = 0; place < named[op].length(); place++) {
                for (int wrong : new int[] {-1, 4, 24, Integer.MIN_VALUE, Integer.MAX_VALUE}) {
                    int[] abc = fine(op);
                    putIs(fourValues(), op, abc, true);
                    abc[named[op].charAt(place) - 'a'] = wrong;
                    putIs(fourValues(), op, abc, false);
                }
            }
        }
        for (int op : new int[] {Integer.MIN_VALUE, -1, 11, 12, 13, Integer.MAX_VALUE}) {
            putIs(fourValues(), op, new int[] {0, 0, 0}, false);
        }
    }

    private static int[] fine(int op) {
        return op == 5 || op == 6 ? new int[] {0, 2, 0} : new int[] {0, 1, 1};
    }

    private static void classesOfOps() {
        for (int a = 0; a < 4; a++) {
            for (int b = 0; b < 4; b++) {
                RegisterHouse house = fourValues();
                putIs(house, 0, new int[] {a, b, 0}, true);
                putIs(house, 1, new int[] {a, b, 0}, true);
                putIs(house, 5, new int[] {a, b, 7}, b >= 2);
                putIs(house, 6, new int[] {a, b, 7}, b >= 2);
                putIs(house, 7, new int[] {a, b, 7}, true);
                putIs(house, 9, new int[] {a, b, 7}, true);
                for (int c = 0; c < 4; c++) {
                    putIs(house, 2, new int[] {a, b, c}, true);
                    putIs(house, 3, new int[] {a, b, c}, true);
                    putIs(house, 4, new int[] {a, b, c}, a < 2 && b < 2 && c < 2);
                }
            }
        }
    }

    private static void numbersOfOps() {
        RegisterHouse house = fourValues();
        for (int number : FAR) {
            putIs(house, 5, new int[] {0, 2, number}, number == 61);
            putIs(house, 6, new int[] {0, 2, number}, number == 61);
            putIs(house, 7, new int[] {0, 1, number}, false);
            putIs(house, 8, new int[] {number, 0, 0}, false);
            putIs(house, 0, new int[] {0, number, 0}, true);
        }
        for (int number : new int[] {0, 1, 59, 60}) {
            putIs(house, 5, new int[] {0, 2, number}, true);
            putIs(house, 6, new int[] {0, 2, number}, true);
            putIs(house, 7, new int[] {0, 1, number}, true);
            putIs(house, 8, new int[] {number, 0, 0}, true);
        }
        putIs(house, 5, new int[] {0, 2, 63}, true);
        putIs(house, 6, new int[] {0, 2, 63}, true);
    }

    private static void whatDoesNotMatter() {
        RegisterHouse house = fourValues();
        for (int odd : FAR) {
            putIs(house, 0, new int[] {0, odd, odd}, true);
            putIs(house, 1, new int[] {0, 1, odd}, true);
            putIs(house, 8, new int[] {3, odd, odd}, true);
            putIs(house, 9, new int[] {0, odd, odd}, true);
            putIs(house, 10, new int[] {odd, odd, odd}, true);
        }
    }

    private static void mostSteps() {
        RegisterHouse house = fourValues();
        for (int step = 0; step < 60; step++) {
            DUE.is("put, step " + step, house.put(9, step % 4, 0, 0), step);
        }
        DUE.is("put behind 60", house.put(9, 0, 0, 0), NONE);
        DUE.is("put(10) behind 60", house.put(10, 0, 0, 0), NONE);
        DUE.is("60 steps", house.count(1), 60);
        DUE.is("clear 60", house.clear(), 60);
        DUE.is("put behind clear", house.put(10, 0, 0, 0), 0);
    }

    private static void clearing() {
        RegisterHouse house = fourValues();
        house.registers(0, 1);
        house.memory(9, 8);
        DUE.is("clear of none", house.clear(), 0);
        house.put(9, 0, 0, 0);
        house.put(9, 1, 0, 0);
        house.put(10, 0, 0, 0);
        house.run(0, 10);
        DUE.is("clear", house.clear(), 3);
        DUE.is("clear again", house.clear(), 0);
        DUE.is("no steps", house.count(1), 0);
        DUE.is("no items", house.count(2), 0);
        DUE.is("live", house.live(0), NONE);
        DUE.is("weight", house.weight(0), 0);
        DUE.is("values stay", house.count(0), 4);
        DUE.is("registers stay", house.home(1), 0);
        DUE.is("the latest run stays", house.made(1), 2);
        house.run(0, 0);
        DUE.is("memory stays", house.cell(9), 8);
    }

    private static void registers() {
        RegisterHouse house = fourValues();
        for (int many = 0; many <= 8; many++) {
            DUE.is("registers(0, " + many + ")", house.registers(0, many), 1);
            DUE.is("registers(1, " + many + ")", house.registers(1, 8 - many), 1);
            DUE.is("home of class 0", house.home(0), many > 0 ? 0 : 100);
            DUE.is("home of class 1", house.home(2), many < 8 ? 0 : 100);
        }
        DUE.is("registers(0, 0)", house.registers(0, 0), 1);
        for (int many : new int[] {Integer.MIN_VALUE, -1, 9, 10, Integer.MAX_VALUE}) {
            DUE.is("registers(0, " + many + ")", house.registers(0, many), 0);
            DUE.is("nothing is done", house.home(0), 100);
        }
        for (int c : new int[] {Integer.MIN_VALUE, -1, 2, Integer.MAX_VALUE}) {
            DUE.is("registers(" + c + ", 1)", house.registers(c, 1), 0);
            DUE.is("nothing is done for class 0", house.home(0), 100);
            DUE.is("nothing is done for class 1", house.home(2), 100);
        }
    }

    private static void memory() {
        RegisterHouse house = new RegisterHouse();
        for (int cell : new int[] {Integer.MIN_VALUE, -1, 64, 65, Integer.MAX_VALUE}) {
            DUE.is("memory(" + cell + ", 5)", house.memory(cell, 5), 0);
        }
        DUE.is("run", house.run(0, 0), 0);
        for (int k = 0; k < 64; k++) {
            DUE.is("nothing is done to " + k, house.cell(k), 0);
            DUE.is("memory(" + k + ")", house.memory(k, -k), 1);
            DUE.is("no run yet with it", house.cell(k), 0);
        }
        house.memory(63, Integer.MIN_VALUE);
        for (int which = 0; which < 3; which++) {
            house.run(which, 0);
            DUE.is("cell 62", house.cell(62), -62);
            DUE.is("cell 63, told twice", house.cell(63), Integer.MIN_VALUE);
        }
    }
}
