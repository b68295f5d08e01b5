/** The edges of promises 14 to 18, each under its own words. */
final class RunEdgesTest {
    private static final int NONE = RegisterHouse.NONE;
    private static final int LEAST = Integer.MIN_VALUE;
    private static final int MOST = Integer.MAX_VALUE;
    private static final Due DUE = new Due("RunEdgesTest");

    public static void main(String[] args) {
        noneGranted();
        mostGranted();
        endsWithTheLastGranted();
        refusedRuns();
        refusedBeforeAnyRun();
        madeBeforeAnyRun();
        madeAndSaidCounts();
        otherMade();
        saidAtTheEdges();
        saidBehindFifty();
        saidNoMore();
        cellsAtTheEdges();
        noSuchCell();
        cellsBeforeAnyRun();
        checkOfNoSteps();
        checkOfStepsThatDoNotEnd();
        checkAtThreeHundred();
        checkLeavesTheLatest();
        DUE.end();
    }

    private static void runs(String what, RegisterHouse house, int which, int granted, int due, int made) {
        String run = what + ": run(" + which + ", " + granted + ")";
        DUE.is(run, house.run(which, granted), due);
        DUE.is(run + ", made(0)", house.made(0), made);
    }

    private static void noneGranted() {
        DUE.edge("Promise 14", "Runs with so many steps granted: 0 when it ended, 1 when more would come.");
        for (int which = 0; which < 3; which++) {
            RegisterHouse house = Houses.of("0", 1, 0);
            house.memory(63, 7);
            runs("no steps", house, which, 0, 0, 0);
            DUE.is("no steps: cell(63)", house.cell(63), 7);
            house.put(9, 0, 0, 0);
            runs("one step", house, which, 0, 1, 0);
            DUE.is("one step: made(1)", house.made(1), 0);
            runs("one step", house, which, 1, 0, 1);
            house.clear();
            house.put(10, 0, 0, 0);
            runs("10 alone", house, which, 0, 1, 0);
            runs("10 alone", house, which, 1, 0, 1);
        }
    }

    private static void mostGranted() {
        DUE.edge("Promise 14", "1 when more would come.");
        for (int which = 0; which < 3; which++) {
            RegisterHouse house = new RegisterHouse();
            house.put(8, 0, 0, 0);
            for (int granted : new int[] {0, 1, 2, 1999, 2000}) {
                runs("endless", house, which, granted, 1, granted);
            }
        }
    }

    /** With three registers, and nothing needless, there are as many items as steps. */
    private static RegisterHouse registersForAll() {
        return Houses.of("000", 3, 0);
    }

    private static void endsWithTheLastGranted() {
        DUE.edge("Promise 14", "0 when it ended, 1 when more would come.");
        for (int which = 0; which < 3; which++) {
            RegisterHouse house = registersForAll();
            Houses.counting(house, 666);
            runs("2000, behind the last one", house, which, 2000, 0, 2000);
            runs("2000, one less granted", house, which, 1999, 1, 1999);
            DUE.is("all but the last one: made(1)", house.made(1), 666);
            house.put(10, 0, 0, 0);
            runs("2001", house, which, 2000, 1, 2000);
            house.clear();
            Houses.counting(house, 665);
            house.put(9, 0, 0, 0);
            house.put(9, 0, 0, 0);
            house.put(10, 0, 0, 0);
            house.put(9, 0, 0, 0);
            runs("2000 with 10", house, which, 2000, 0, 2000);
            runs("2000 with 10, one less granted", house, which, 1999, 1, 1999);
        }
    }

    private static RegisterHouse told() {
        RegisterHouse house = Houses.of("01");
        house.memory(5, 50);
        house.put(5, 0, 1, 5);
        house.put(9, 0, 0, 0);
        house.put(6, 0, 1, 0);
        house.put(9, 0, 0, 0);
        return house;
    }

    private static RegisterHouse toldAndRun() {
        RegisterHouse house = told();
        house.run(1, 2000);
        // another run would be seen
        house.memory(5, 60);
        return house;
    }

    private static void refusedRuns() {
        DUE.edge("Promise 14", "NONE, and nothing is changed, when there is no such run, or they are not 0 .. 2000.");
        Twins before = new Twins(DUE, RunEdgesTest::told);
        Twins behind = new Twins(DUE, RunEdgesTest::toldAndRun);
        for (int which : new int[] {LEAST, -1, 3, 4, MOST}) {
            for (int granted : new int[] {0, 1, 2000}) {
                before.refuses("run(" + which + ", " + granted + ")", house -> house.run(which, granted), NONE);
                behind.refuses("run(" + which + ", " + granted + ")", house -> house.run(which, granted), NONE);
            }
        }
        for (int granted : new int[] {LEAST, -1, 2001, 2002, MOST}) {
            for (int which = 0; which < 3; which++) {
                int asked = which;
                before.refuses("run(" + which + ", " + granted + ")", house -> house.run(asked, granted), NONE);
                behind.refuses("run(" + which + ", " + granted + ")", house -> house.run(asked, granted), NONE);
            }
        }
        new Twins(DUE, RegisterHouse::new).refuses("run(3, 0)", house -> house.run(3, 0), NONE);
        new Twins(DUE, RegisterHouse::new).refuses("run(0, 2001)", house -> house.run(0, 2001), NONE);
    }

    private static void refusedBeforeAnyRun() {
        DUE.edge("Promise 14", "NONE, and nothing is changed");
        RegisterHouse house = told();
        DUE.is("run(0, 2001)", house.run(0, 2001), NONE);
        DUE.is("run(0, -1)", house.run(0, -1), NONE);
        DUE.is("run(3, 9)", house.run(3, 9), NONE);
        DUE.latest("refused, and no run", house, 0);
        DUE.is("refused, and no run: cell(5)", house.cell(5), 0);
        DUE.is("run(2, 2000)", house.run(2, 2000), 0);
        DUE.is("run(0, 2001)", house.run(0, 2001), NONE);
        DUE.latest("refused behind a run", house, 9, 50, 50);
        DUE.is("refused behind a run: cell(0)", house.cell(0), 50);
        DUE.is("refused behind a run: cell(5)", house.cell(5), 50);
    }

    private static void madeBeforeAnyRun() {
        DUE.edge("Promise 15", "0 when there was none.");
        RegisterHouse house = new RegisterHouse();
        DUE.is("a new object: made(0)", house.made(0), 0);
        DUE.is("a new object: made(1)", house.made(1), 0);
        house = told();
        house.check();
        DUE.is("told: made(0)", house.made(0), 0);
        DUE.is("told: made(1)", house.made(1), 0);
        house.run(0, -1);
        DUE.is("behind a refused run: made(0)", house.made(0), 0);
        DUE.is("behind a refused run: made(1)", house.made(1), 0);
    }

    private static void madeAndSaidCounts() {
        DUE.edge("Promise 15", "Of the latest run: how many steps or items were made (what 0), "
            + "how many values were said (1)");
        RegisterHouse house = Houses.of("0", 1, 0);
        house.put(9, 0, 0, 0);
        house.put(8, 0, 0, 0);
        for (int granted : new int[] {0, 1, 2, 97, 98, 99, 100, 101, 1999, 2000}) {
            for (int which = 0; which < 3; which++) {
                runs("says for ever", house, which, granted, 1, granted);
                DUE.is("of " + granted + ": made(1)", house.made(1), (granted + 1) / 2);
            }
        }
        house.run(0, 0);
        DUE.is("the latest alone: made(0)", house.made(0), 0);
        DUE.is("the latest alone: made(1)", house.made(1), 0);
    }

    private static void otherMade() {
        DUE.edge("Promise 15", "NONE for others.");
        for (RegisterHouse house : new RegisterHouse[] {new RegisterHouse(), told(), toldAndRun()}) {
            for (int what : new int[] {LEAST, -2, -1, 2, 3, MOST}) {
                DUE.is("made(" + what + ")", house.made(what), NONE);
            }
        }
    }

    /** An object whose runs say 1 up to the last. */
    private static RegisterHouse saying(int last) {
        RegisterHouse house = registersForAll();
        Houses.counting(house, last);
        return house;
    }

    private static void saidAtTheEdges() {
        DUE.edge("Promise 16", "What was said k-th in the latest run, counted from 0; 0 when there is none such");
        RegisterHouse house = saying(3);
        for (int k : new int[] {LEAST, -1, 0, 1, 49, 50, MOST}) {
            DUE.is("before any run: said(" + k + ")", house.said(k), 0);
        }
        house.run(0, 2001);
        DUE.is("behind a refused run: said(0)", house.said(0), 0);
        for (int which = 0; which < 3; which++) {
            house.run(which, 2000);
            DUE.is("the first", house.said(0), 1);
            DUE.is("the last", house.said(2), 3);
            for (int k : new int[] {LEAST, -1, 3, 4, 49, 50, MOST}) {
                DUE.is("none such: said(" + k + ")", house.said(k), 0);
            }
            DUE.is("a refused run", house.run(which, -1), NONE);
            DUE.is("behind a refused run: said(2)", house.said(2), 3);
        }
    }

    private static void saidBehindFifty() {
        DUE.edge("Promise 16", "or it was said behind the first 50.");
        for (int last : new int[] {49, 50, 51, 52, 600}) {
            RegisterHouse house = saying(last);
            for (int which = 0; which < 3; which++) {
                String run = last + " said, run " + which;
                DUE.is(run, house.run(which, 2000), 0);
                DUE.is(run + ": made(1)", house.made(1), last);
                for (int k : new int[] {0, 1, 48, 49, 50, 51, 52, last - 1, last}) {
                    DUE.is(run + ": said(" + k + ")", house.said(k), k < 50 && k < last ? k + 1 : 0);
                }
            }
        }
    }

    /** What an earlier run said is not there any more. */
    private static void saidNoMore() {
        DUE.edge("Promise 16", "What was said k-th in the latest run");
        RegisterHouse house = saying(60);
        house.run(0, 2000);
        house.run(0, 4);
        DUE.latest("a shorter run", house, 4, 1);
        DUE.is("a shorter run: said(49)", house.said(49), 0);
        house.run(0, 0);
        DUE.is("none granted: said(0)", house.said(0), 0);
    }

    private static void cellsAtTheEdges() {
        DUE.edge("Promise 17", "A cell of memory as the latest run left it");
        RegisterHouse house = Houses.of("01");
        house.memory(0, 3);
        house.memory(1, 4);
        house.memory(62, 5);
        house.memory(63, 6);
        house.put(0, 0, 9, 0);
        house.put(6, 0, 1, 0);
        house.put(6, 0, 1, 63);
        for (int which = 0; which < 3; which++) {
            cells("run " + which + ", none granted", house, which, 0, 3, 6);
            cells("run " + which, house, which, 2000, 9, 9);
            house.run(3, 0);
            DUE.is("behind a refused run: cell(0)", house.cell(0), 9);
        }
        cells("cut off between", house, 0, 2, 9, 6);
        house.memory(63, 7);
        DUE.is("told behind the run: cell(63)", house.cell(63), 6);
        cells("the next run", house, 0, 2, 9, 7);
    }

    private static void cells(String what, RegisterHouse house, int which, int granted, int first, int last) {
        house.run(which, granted);
        DUE.is(what + ": cell(0)", house.cell(0), first);
        DUE.is(what + ": cell(1)", house.cell(1), 4);
        DUE.is(what + ": cell(62)", house.cell(62), 5);
        DUE.is(what + ": cell(63)", house.cell(63), last);
    }

    private static void noSuchCell() {
        DUE.edge("Promise 17", "0 when there is none such");
        RegisterHouse house = new RegisterHouse();
        for (int k = 0; k < 64; k++) {
            house.memory(k, 5);
        }
        for (int which = 0; which < 3; which++) {
            house.run(which, 0);
            for (int k : new int[] {LEAST, -64, -1, 64, 65, 128, MOST}) {
                DUE.is("cell(" + k + ")", house.cell(k), 0);
            }
            DUE.is("cell(0)", house.cell(0), 5);
            DUE.is("cell(63)", house.cell(63), 5);
        }
    }

    private static void cellsBeforeAnyRun() {
        DUE.edge("Promise 17", "or no run.");
        RegisterHouse house = new RegisterHouse();
        house.memory(0, 5);
        house.memory(63, 5);
        house.check();
        house.run(0, 2001);
        house.run(-1, 0);
        for (int k : new int[] {LEAST, -1, 0, 63, 64, MOST}) {
            DUE.is("cell(" + k + ")", house.cell(k), 0);
        }
    }

    private static void checkOfNoSteps() {
        DUE.edge("Promise 18", "Whether no two values in each other's way have one home, and the code, "
            + "run with 300 granted, says and leaves what the steps do, if these end: 1");
        RegisterHouse house = new RegisterHouse();
        DUE.is("nothing: check()", house.check(), 1);
        for (int v = 0; v < 24; v++) {
            house.value(v % 2);
            DUE.is("no steps, " + (v + 1) + " values: check()", house.check(), 1);
        }
        house.memory(63, 5);
        DUE.is("no steps, memory: check()", house.check(), 1);
        Houses.crowd(house, Houses.upTo(24));
        // values of two classes have homes of the same numbers: they are not in each other's way
        for (int many = 0; many <= 8; many++) {
            house.registers(0, many);
            DUE.is("24 values, " + many + " registers: check()", house.check(), 1);
        }
        house.clear();
        DUE.is("cleared: check()", house.check(), 1);
    }

    private static void checkOfStepsThatDoNotEnd() {
        DUE.edge("Promise 18", "what the steps do, if these end");
        for (int many = 0; many <= 3; many++) {
            RegisterHouse house = Houses.of("0001", many, 0);
            house.put(8, 0, 0, 0);
            DUE.is("8 to itself: check()", house.check(), 1);
            house.clear();
            // in slots the code comes less far with 300 granted: it says and leaves something else
            house.put(0, 1, 1, 0);
            house.put(2, 0, 0, 1);
            house.put(9, 0, 0, 0);
            house.put(6, 0, 3, 0);
            house.put(8, 1, 0, 0);
            DUE.is("says and leaves for ever: check()", house.check(), 1);
            house.clear();
            Houses.counting(house, 100);
            DUE.is("302 steps: check()", house.check(), 1);
        }
    }

    private static void checkAtThreeHundred() {
        DUE.edge("Promise 18", "the code, run with 300 granted");
        RegisterHouse house = saying(99);
        DUE.is("299 steps and items: run(1, 299)", house.run(1, 299), 0);
        DUE.is("299 steps and items: check()", house.check(), 1);
        house.put(9, 0, 0, 0);
        DUE.is("300 steps and items: run(1, 300)", house.run(1, 300), 0);
        DUE.is("300 steps and items: check()", house.check(), 1);
        house.put(9, 0, 0, 0);
        DUE.is("301 steps and items: run(1, 300)", house.run(1, 300), 1);
        DUE.is("301 steps and items: check()", house.check(), 1);
    }

    private static void checkLeavesTheLatest() {
        DUE.edge("Promise 18", "(The latest run stays.)");
        RegisterHouse house = told();
        DUE.is("before any run: check()", house.check(), 1);
        DUE.latest("no run", house, 0);
        DUE.is("no run: cell(5)", house.cell(5), 0);
        for (int which = 0; which < 3; which++) {
            house = told();
            house.run(which, 1);
            DUE.is("behind run " + which + ", cut off: check()", house.check(), 1);
            DUE.latest("run " + which + ", cut off", house, 1);
            DUE.is("run " + which + ", cut off: cell(0)", house.cell(0), 0);
            house.run(which, 2000);
            int made = house.made(0);
            house.memory(5, 60);
            DUE.is("behind run " + which + ": check()", house.check(), 1);
            DUE.latest("run " + which, house, made, 50, 50);
            DUE.is("run " + which + ": cell(0)", house.cell(0), 50);
            DUE.is("run " + which + ": cell(5)", house.cell(5), 50);
            house.run(which, 2000);
            DUE.is("memory stays as it was told: said(0)", house.said(0), 60);
        }
    }
}
