import java.util.function.ToIntFunction;

/** The edges of promises 1 to 6, each under its own words. */
final class ToldEdgesTest {
    private static final int NONE = RegisterHouse.NONE;
    private static final int LEAST = Integer.MIN_VALUE;
    private static final int MOST = Integer.MAX_VALUE;
    private static final int[] NO_CLASSES = {LEAST, -1, 2, 3, MOST};
    private static final Due DUE = new Due("ToldEdgesTest");

    public static void main(String[] args) {
        newObject();
        newObjectLetsIn();
        noSuchClass();
        twentyFive();
        noSuchOp();
        noSuchValue();
        wrongClass();
        wrongNumber();
        sixtyOne();
        notNamed();
        clearOfNone();
        clearOfSixty();
        whatStays();
        registersAtTheEdges();
        refusedRegisters();
        cellsAtTheEdges();
        refusedCells();
        DUE.end();
    }

    /** Values, a register and steps of both classes, a run of them, and a cell that is told behind it. */
    private static RegisterHouse told() {
        RegisterHouse house = Houses.of("0011", 1, 1);
        house.memory(5, 77);
        house.put(0, 0, 3, 0);
        house.put(1, 1, 0, 0);
        house.put(5, 0, 2, 5);
        house.put(9, 0, 0, 0);
        house.put(6, 1, 3, 63);
        house.put(7, 0, 1, 0);
        house.run(1, 30);
        house.memory(62, 6);
        return house;
    }

    private static void refuses(String call, ToIntFunction<RegisterHouse> refused, int answer) {
        new Twins(DUE, ToldEdgesTest::told).refuses(call, refused, answer);
    }

    private static void refusesPut(int op, int a, int b, int c) {
        refuses("put(" + op + ", " + a + ", " + b + ", " + c + ")", house -> house.put(op, a, b, c), NONE);
    }

    /** The call is let in as step 6 of the told ones: what is refused beside it is so for one reason. */
    private static void letsIn(int op, int a, int b, int c) {
        DUE.is("put(" + op + ", " + a + ", " + b + ", " + c + ")", told().put(op, a, b, c), 6);
    }

    private static void newObject() {
        DUE.edge("Promise 1", "No values, no steps, no registers, memory 0.");
        RegisterHouse house = new RegisterHouse();
        for (int k : new int[] {LEAST, -1, 0, 1, 2, 23, 24, 59, 60, MOST}) {
            DUE.is("live(" + k + ")", house.live(k), NONE);
            DUE.is("inWay(" + k + ")", house.inWay(k), NONE);
            DUE.is("weight(" + k + ")", house.weight(k), NONE);
            DUE.is("home(" + k + ")", house.home(k), NONE);
            DUE.is("order(" + k + ")", house.order(k), NONE);
            DUE.is("count(" + k + ")", house.count(k), k >= 0 && k <= 5 ? 0 : NONE);
            DUE.is("made(" + k + ")", house.made(k), k == 0 || k == 1 ? 0 : NONE);
            DUE.is("said(" + k + ")", house.said(k), 0);
            DUE.is("cell(" + k + ")", house.cell(k), 0);
            for (int which = 0; which <= 3; which++) {
                DUE.is("item(" + which + ", " + k + ", 0)", house.item(which, k, 0), NONE);
                DUE.is("item(" + which + ", 0, " + k + ")", house.item(which, 0, k), NONE);
            }
        }
        for (int what = 3; what <= 5; what++) {
            DUE.is("count(" + what + ")", house.count(what), 0);
        }
        DUE.is("check()", house.check(), 1);
        DUE.is("clear()", house.clear(), 0);
    }

    private static void newObjectLetsIn() {
        DUE.edge("Promise 1", "No values, no steps, no registers, memory 0.");
        for (int which = 0; which < 3; which++) {
            for (int granted : new int[] {0, 2000}) {
                RegisterHouse house = new RegisterHouse();
                DUE.is("run(" + which + ", " + granted + ")", house.run(which, granted), 0);
                DUE.latest("run(" + which + ", " + granted + ")", house, 0);
                for (int k = 0; k < 64; k++) {
                    DUE.is("memory 0: cell(" + k + ")", house.cell(k), 0);
                }
            }
        }
        for (int op = 0; op <= 10; op++) {
            DUE.is("no values: put(" + op + ", 0, 0, 0)", new RegisterHouse().put(op, 0, 0, 0),
                op == 8 || op == 10 ? 0 : NONE);
        }
        for (int c = 0; c <= 1; c++) {
            RegisterHouse house = new RegisterHouse();
            DUE.is("value(" + c + ")", house.value(c), 0);
            DUE.is("no registers: home(0)", house.home(0), 100);
            DUE.is("registers(" + c + ", 8)", house.registers(c, 8), 1);
            DUE.is("memory(63, 1)", house.memory(63, 1), 1);
        }
    }

    private static void noSuchClass() {
        DUE.edge("Promise 2", "NONE when there is no such class");
        for (int c : NO_CLASSES) {
            refuses("value(" + c + ")", house -> house.value(c), NONE);
            RegisterHouse house = new RegisterHouse();
            DUE.is("value(" + c + ") of a new object", house.value(c), NONE);
            DUE.is("value(0) then", house.value(0), 0);
            DUE.is("value(" + c + ") between", house.value(c), NONE);
            DUE.is("value(1) then", house.value(1), 1);
        }
    }

    private static RegisterHouse twentyFour() {
        RegisterHouse house = Houses.of("010101010101010101010101", 2, 2);
        for (int v = 0; v < 24; v += 4) {
            Houses.crowd(house, v, v + 1, v + 2, v + 3);
        }
        return house;
    }

    private static void twentyFive() {
        DUE.edge("Promise 2", "One more value of a class: its number. NONE when there is no such class, "
            + "or there are 24.");
        for (int c = 0; c <= 1; c++) {
            int asked = c;
            RegisterHouse house = new RegisterHouse();
            for (int v = 0; v < 24; v++) {
                DUE.is("value(" + c + "), " + v + " before", house.value(c), v);
            }
            DUE.is("value(" + c + "), 24 before", house.value(c), NONE);
            DUE.is("value of the other class, 24 before", house.value(1 - c), NONE);
            DUE.is("clear() leaves no room", house.clear(), 0);
            DUE.is("value(" + c + "), still 24 before", house.value(c), NONE);
            new Twins(DUE, ToldEdgesTest::twentyFour).refuses("value(" + c + ")", h -> h.value(asked), NONE);
        }
    }

    private static void noSuchOp() {
        DUE.edge("Promise 3", "NONE when there is no such op");
        for (int op : new int[] {LEAST, -1, 11, 12, 13, MOST}) {
            refusesPut(op, 0, 0, 0);
        }
        letsIn(0, 0, 0, 0);
        letsIn(10, 0, 0, 0);
    }

    /** Values 0 and 1 of the told ones are of class 0, 2 and 3 of class 1. */
    private static void noSuchValue() {
        DUE.edge("Promise 3", "a value, class, c or number is not as it must be");
        for (int wrong : new int[] {LEAST, -1, 4, 24, MOST}) {
            for (int op : new int[] {0, 1, 7, 9}) {
                refusesPut(op, wrong, 0, 0);
            }
            for (int op = 2; op <= 4; op++) {
                refusesPut(op, wrong, 0, 0);
                refusesPut(op, 0, wrong, 0);
                refusesPut(op, 0, 0, wrong);
            }
            for (int op = 5; op <= 6; op++) {
                refusesPut(op, wrong, 2, 0);
                refusesPut(op, 0, wrong, 0);
            }
            refusesPut(1, 0, wrong, 0);
            refusesPut(7, 0, wrong, 0);
        }
        for (int op : new int[] {0, 1, 2, 3, 7, 9}) {
            letsIn(op, 3, 3, 3);
        }
        RegisterHouse house = told();
        DUE.is("put(9, 4, 0, 0) before", house.put(9, 4, 0, 0), NONE);
        house.value(0);
        DUE.is("put(9, 4, 0, 0) behind value", house.put(9, 4, 0, 0), 6);
    }

    private static void wrongClass() {
        DUE.edge("Terms", "4 the product (here all three of class 0)");
        letsIn(4, 0, 1, 1);
        refusesPut(4, 2, 1, 1);
        refusesPut(4, 0, 2, 1);
        refusesPut(4, 0, 1, 2);
        DUE.edge("Terms", "1 value a becomes value b (of any classes); 2 value a becomes the sum of values b and c, "
            + "3 the difference (of any classes, too)");
        for (int[] mix : new int[][] {{0, 1, 1}, {2, 1, 1}, {0, 2, 1}, {0, 1, 2}, {2, 2, 1}, {2, 3, 3}}) {
            letsIn(1, mix[0], mix[1], mix[2]);
            letsIn(2, mix[0], mix[1], mix[2]);
            letsIn(3, mix[0], mix[1], mix[2]);
        }
        DUE.edge("Terms", "5 value a becomes memory at value b (of class 1) and c more, 6 memory at value b (of class 1) "
            + "and c more becomes value a");
        for (int op = 5; op <= 6; op++) {
            letsIn(op, 0, 3, 0);
            letsIn(op, 3, 3, 0);
            refusesPut(op, 0, 1, 0);
            refusesPut(op, 3, 1, 0);
        }
    }

    private static void wrongNumber() {
        DUE.edge("Promise 3", "a value, class, c or number is not as it must be");
        for (int op = 5; op <= 6; op++) {
            letsIn(op, 0, 2, 0);
            letsIn(op, 0, 2, 63);
            for (int c : new int[] {LEAST, -1, 64, MOST}) {
                refusesPut(op, 0, 2, c);
            }
        }
        letsIn(7, 0, 1, 0);
        letsIn(7, 0, 1, 60);
        letsIn(8, 0, 0, 0);
        letsIn(8, 60, 0, 0);
        for (int step : new int[] {LEAST, -1, 61, MOST}) {
            refusesPut(7, 0, 1, step);
            refusesPut(8, step, 0, 0);
        }
    }

    private static RegisterHouse sixty() {
        RegisterHouse house = Houses.of("01", 1, 0);
        for (int step = 0; step < 60; step++) {
            house.put(step % 7 == 3 ? 7 : 9, step % 2, 0, 60 - step);
        }
        return house;
    }

    private static void sixtyOne() {
        DUE.edge("Promise 3", "One more step: its number. NONE when there is no such op, a value, class, c or "
            + "number is not as it must be, or there are 60.");
        RegisterHouse house = Houses.of("0");
        for (int step = 0; step < 60; step++) {
            DUE.is("put, " + step + " before", house.put(step % 2 == 0 ? 9 : 10, 0, 0, 0), step);
            DUE.is("refused, and no step", house.put(11, 0, 0, 0), NONE);
        }
        for (int op = 0; op <= 10; op++) {
            int asked = op;
            int b = op == 5 || op == 6 ? 1 : 0;
            new Twins(DUE, ToldEdgesTest::sixty).refuses("put(" + op + ", 0, " + b + ", 0), 60 before",
                full -> full.put(asked, 0, b, 0), NONE);
        }
    }

    private static void notNamed() {
        DUE.edge("Terms", "Each has an op and numbers a, b, c (those not named do not matter)");
        for (int odd : new int[] {LEAST, -1, 4, 24, 61, 64, MOST}) {
            letsIn(0, 0, odd, odd);
            letsIn(1, 0, 0, odd);
            letsIn(8, 0, odd, odd);
            letsIn(9, 0, odd, odd);
            letsIn(10, odd, odd, odd);
        }
    }

    private static void clearOfNone() {
        DUE.edge("Promise 4", "how many there were.");
        RegisterHouse house = new RegisterHouse();
        DUE.is("clear() of a new object", house.clear(), 0);
        house.value(0);
        DUE.is("clear() of no steps", house.clear(), 0);
        house.put(9, 0, 0, 0);
        DUE.is("clear() of one", house.clear(), 1);
        DUE.is("clear() behind clear()", house.clear(), 0);
        house.put(9, 1, 0, 0);
        DUE.is("clear() behind a refused step", house.clear(), 0);
    }

    private static void clearOfSixty() {
        DUE.edge("Promise 4", "No steps any more");
        RegisterHouse house = sixty();
        DUE.is("clear() of 60", house.clear(), 60);
        DUE.is("count(1)", house.count(1), 0);
        DUE.is("count(2)", house.count(2), 0);
        DUE.is("count(3)", house.count(3), 0);
        DUE.is("live(0)", house.live(0), NONE);
        DUE.is("item(1, 0, 0)", house.item(1, 0, 0), NONE);
        DUE.is("item(2, 0, 0)", house.item(2, 0, 0), NONE);
        for (int v = 0; v < 2; v++) {
            DUE.is("inWay(" + v + ")", house.inWay(v), 0);
            DUE.is("weight(" + v + ")", house.weight(v), 0);
            DUE.is("order(" + v + ")", house.order(v), v);
        }
        for (int which = 0; which < 3; which++) {
            DUE.is("run(" + which + ", 0)", house.run(which, 0), 0);
        }
        for (int step = 0; step < 60; step++) {
            DUE.is("put anew, step " + step, house.put(9, 0, 0, 0), step);
        }
        DUE.is("put anew, 60 before", house.put(9, 0, 0, 0), NONE);
        DUE.is("clear() of 60 anew", house.clear(), 60);
    }

    private static void whatStays() {
        DUE.edge("Promise 4", "values, registers and memory stay");
        RegisterHouse house = told();
        int made = house.made(0);
        DUE.is("clear()", house.clear(), 6);
        DUE.is("the latest run: made(0)", house.made(0), made);
        DUE.is("the latest run: said(0)", house.said(0), 77);
        DUE.is("the latest run: cell(5)", house.cell(5), 77);
        DUE.is("values: count(0)", house.count(0), 4);
        DUE.is("values: the next one", house.value(0), 4);
        DUE.is("values: their classes", house.put(5, 0, 3, 0), 0);
        DUE.is("values: their classes, refused", house.put(5, 0, 1, 0), NONE);
        house.clear();
        DUE.is("registers of class 0: home(0)", house.home(0), 0);
        DUE.is("registers of class 1: home(3)", house.home(3), 0);
        Houses.crowd(house, 0, 1, 2, 3);
        DUE.is("one register of class 0: home(1)", house.home(1), 100);
        DUE.is("one register of class 1: home(3)", house.home(3), 100);
        house.clear();
        house.run(0, 0);
        DUE.is("memory: cell(5)", house.cell(5), 77);
        DUE.is("memory: cell(62)", house.cell(62), 6);
        DUE.is("memory: cell(63), which a run changed", house.cell(63), 0);
    }

    /** Nine values of a class, each in the way of each: their homes tell how many registers there are. */
    private static RegisterHouse nine(int c) {
        RegisterHouse house = Houses.of(c == 0 ? "000000000" : "111111111");
        Houses.crowd(house, Houses.upTo(9));
        return house;
    }

    private static void has(String what, RegisterHouse house, int registers) {
        for (int v = 0; v < 9; v++) {
            DUE.is(what + ": home(" + v + ")", house.home(v), v < registers ? v : 100 + v - registers);
        }
    }

    private static void registersAtTheEdges() {
        DUE.edge("Promise 5", "A class has so many registers: 1");
        for (int c = 0; c <= 1; c++) {
            RegisterHouse house = nine(c);
            has("none told", house, 0);
            for (int many : new int[] {8, 0, 1, 7, 8, 8, 0, 0}) {
                DUE.is("registers(" + c + ", " + many + ")", house.registers(c, many), 1);
                has("registers(" + c + ", " + many + ")", house, many);
            }
            DUE.is("of the other class", house.registers(1 - c, 8), 1);
            has("8 of the other class", house, 0);
        }
    }

    private static void refusedRegisters() {
        DUE.edge("Promise 5", "0, and nothing is done, when there is no such class, or they are not 0 .. 8.");
        for (int c = 0; c <= 1; c++) {
            for (int stays : new int[] {0, 8}) {
                RegisterHouse house = nine(c);
                house.registers(c, stays);
                for (int many : new int[] {LEAST, -1, 9, 10, MOST}) {
                    DUE.is("registers(" + c + ", " + many + ")", house.registers(c, many), 0);
                    has("registers(" + c + ", " + many + ")", house, stays);
                }
                for (int other : NO_CLASSES) {
                    DUE.is("registers(" + other + ", 3)", house.registers(other, 3), 0);
                    has("registers(" + other + ", 3)", house, stays);
                }
            }
            int asked = c;
            refuses("registers(" + c + ", 9)", house -> house.registers(asked, 9), 0);
            refuses("registers(" + c + ", -1)", house -> house.registers(asked, -1), 0);
        }
        refuses("registers(-1, 0)", house -> house.registers(-1, 0), 0);
        refuses("registers(2, 0)", house -> house.registers(2, 0), 0);
    }

    private static void cellsAtTheEdges() {
        DUE.edge("Promise 6", "A cell of memory is v, when a run begins: 1");
        for (int cell : new int[] {0, 1, 62, 63}) {
            for (int v : new int[] {LEAST, -1, 0, MOST}) {
                RegisterHouse house = new RegisterHouse();
                house.memory(cell, 4);
                DUE.is("memory(" + cell + ", " + v + ")", house.memory(cell, v), 1);
                DUE.is("before a run", house.cell(cell), 0);
                house.run(0, 0);
                for (int k = 0; k < 64; k++) {
                    DUE.is("memory(" + cell + ", " + v + "): cell(" + k + ")", house.cell(k), k == cell ? v : 0);
                }
                house.memory(cell, 9);
                DUE.is("before the next run", house.cell(cell), v);
            }
        }
    }

    private static void refusedCells() {
        DUE.edge("Promise 6", "0, and nothing is done, when there is none such.");
        for (int cell : new int[] {LEAST, -64, -2, -1, 64, 65, 127, 128, MOST}) {
            RegisterHouse house = new RegisterHouse();
            DUE.is("memory(" + cell + ", 5)", house.memory(cell, 5), 0);
            house.run(0, 0);
            for (int k = 0; k < 64; k++) {
                DUE.is("memory(" + cell + ", 5): cell(" + k + ")", house.cell(k), 0);
            }
            refuses("memory(" + cell + ", 5)", told -> told.memory(cell, 5), 0);
        }
    }
}
