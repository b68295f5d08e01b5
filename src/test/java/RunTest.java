/** Promises 14 to 17: run, made, said, cell. */
final class RunTest {
    private static final int NONE = RegisterHouse.NONE;
    private static final int[] FAR = {Integer.MIN_VALUE, -1, 64, 65, 1000, Integer.MAX_VALUE};
    private static final Due DUE = new Due("RunTest");

    public static void main(String[] args) {
        noRun();
        refused();
        grants();
        grantsOfCode();
        endless();
        numbers();
        places();
        less();
        whereNoneComes();
        saidBehindFifty();
        anewEachTime();
        slotsOfTwoClasses();
        latestStays();
        DUE.end();
    }

    private static void noRun() {
        RegisterHouse house = Houses.of("0");
        house.put(9, 0, 0, 0);
        house.memory(0, 7);
        DUE.latest("no run", house, 0);
        DUE.is("no run: cell(0)", house.cell(0), 0);
        for (int wrong : FAR) {
            DUE.is("no run: made(" + wrong + ")", house.made(wrong), NONE);
            DUE.is("no run: said(" + wrong + ")", house.said(wrong), 0);
            DUE.is("no run: cell(" + wrong + ")", house.cell(wrong), 0);
        }
        DUE.is("no run: made(2)", house.made(2), NONE);
    }

    private static void refused() {
        RegisterHouse house = Houses.of("0");
        house.put(0, 0, 8, 0);
        house.put(9, 0, 0, 0);
        house.memory(5, 6);
        DUE.is("run(0, 2000)", house.run(0, 2000), 0);
        house.memory(5, 7);
        for (int wrong : new int[] {Integer.MIN_VALUE, -1, 3, 4, Integer.MAX_VALUE}) {
            DUE.is("run(" + wrong + ", 1)", house.run(wrong, 1), NONE);
        }
        for (int wrong : new int[] {Integer.MIN_VALUE, -1, 2001, Integer.MAX_VALUE}) {
            for (int which = 0; which < 3; which++) {
                DUE.is("run(" + which + ", " + wrong + ")", house.run(which, wrong), NONE);
            }
        }
        DUE.latest("refused", house, 2, 8);
        DUE.is("refused: cell(5)", house.cell(5), 6);
        for (int wrong : FAR) {
            DUE.is("made(" + wrong + ")", house.made(wrong), NONE);
            DUE.is("said(" + wrong + ")", house.said(wrong), 0);
            DUE.is("cell(" + wrong + ")", house.cell(wrong), 0);
        }
        DUE.is("made(2)", house.made(2), NONE);
    }

    private static void grants() {
        RegisterHouse house = Houses.of("0");
        house.put(0, 0, 8, 0);
        house.put(9, 0, 0, 0);
        DUE.is("none granted", house.run(0, 0), 1);
        DUE.latest("none granted", house, 0);
        DUE.is("one granted", house.run(0, 1), 1);
        DUE.latest("one granted", house, 1);
        DUE.is("two granted", house.run(0, 2), 0);
        DUE.latest("two granted", house, 2, 8);
        house.put(10, 0, 0, 0);
        house.put(9, 0, 0, 0);
        DUE.is("10 would come", house.run(0, 2), 1);
        DUE.latest("10 would come", house, 2, 8);
        DUE.is("10 counts", house.run(0, 3), 0);
        DUE.latest("10 counts", house, 3, 8);
        DUE.is("10 ends", house.run(0, 2000), 0);
        DUE.latest("10 ends", house, 3, 8);
        house.clear();
        for (int which = 0; which < 3; which++) {
            DUE.is("no steps", house.run(which, 0), 0);
            DUE.latest("no steps", house, 0);
        }
    }

    private static void grantsOfCode() {
        RegisterHouse house = Houses.of("0");
        house.put(0, 0, 8, 0);
        house.put(9, 0, 0, 0);
        house.put(8, 60, 0, 0);
        DUE.is("code, 4 granted", house.run(1, 4), 1);
        DUE.latest("code, 4 granted", house, 4, 8);
        DUE.is("code, 5 granted", house.run(1, 5), 0);
        DUE.latest("code, 5 granted", house, 5, 8);
        DUE.is("tidied, 2 granted", house.run(2, 2), 1);
        DUE.latest("tidied, 2 granted", house, 2);
        DUE.is("tidied, 3 granted", house.run(2, 3), 0);
        DUE.latest("tidied, 3 granted", house, 3, 8);
    }

    private static void endless() {
        RegisterHouse house = Houses.of("0");
        house.put(8, 0, 0, 0);
        for (int which = 0; which < 3; which++) {
            for (int granted : new int[] {0, 1, 77, 2000}) {
                DUE.is("endless, " + granted + " granted", house.run(which, granted), 1);
                DUE.latest("endless", house, granted);
            }
        }
    }

    private static void numbers() {
        RegisterHouse house = Houses.of("0001");
        house.put(0, 0, Integer.MAX_VALUE, 0);
        house.put(0, 1, 1, 0);
        house.put(2, 2, 0, 1);
        house.put(9, 2, 0, 0);
        house.put(3, 2, 2, 1);
        house.put(9, 2, 0, 0);
        house.put(4, 2, 0, 0);
        house.put(9, 2, 0, 0);
        house.put(3, 2, 1, 0);
        house.put(9, 2, 0, 0);
        house.put(2, 3, 2, 2);
        house.put(9, 3, 0, 0);
        house.put(1, 0, 3, 0);
        house.put(4, 0, 0, 0);
        house.put(9, 0, 0, 0);
        DUE.saysInAllRuns("numbers", house, Integer.MIN_VALUE, Integer.MAX_VALUE, 1, -2147483646, 4, 16);
    }

    private static void places() {
        RegisterHouse house = Houses.of("011");
        house.memory(63, 630);
        house.memory(0, 10);
        house.memory(62, 620);
        house.put(0, 1, -1, 0);
        house.put(5, 0, 1, 0);
        house.put(9, 0, 0, 0);
        house.put(5, 0, 1, 1);
        house.put(9, 0, 0, 0);
        house.put(5, 2, 1, 63);
        house.put(9, 2, 0, 0);
        house.put(0, 1, Integer.MAX_VALUE, 0);
        house.put(6, 2, 1, 1);
        house.put(6, 1, 1, 0);
        house.put(0, 1, Integer.MIN_VALUE, 0);
        house.put(6, 2, 1, 5);
        house.put(0, 1, 64 * 3 + 7, 0);
        house.put(6, 0, 1, 63);
        DUE.saysInAllRuns("places", house, 630, 10, 620);
        for (int which = 0; which < 3; which++) {
            house.run(which, 100);
            DUE.is("cell 0", house.cell(0), 620);
            DUE.is("cell 63", house.cell(63), Integer.MAX_VALUE);
            DUE.is("cell 5", house.cell(5), 620);
            DUE.is("cell 6", house.cell(6), 10);
            DUE.is("cell 7", house.cell(7), 0);
            DUE.is("cell 62", house.cell(62), 620);
        }
    }

    private static void less() {
        int[][] pairs = {{1, 2}, {2, 2}, {3, 2}, {-1, 0}, {Integer.MIN_VALUE, Integer.MAX_VALUE},
            {Integer.MAX_VALUE, Integer.MIN_VALUE}};
        for (int[] pair : pairs) {
            RegisterHouse house = Houses.of("01");
            house.put(0, 0, pair[0], 0);
            house.put(0, 1, pair[1], 0);
            house.put(7, 0, 1, 4);
            house.put(9, 0, 0, 0);
            house.put(9, 1, 0, 0);
            if (pair[0] < pair[1]) {
                DUE.saysInAllRuns("less", house, pair[1]);
            } else {
                DUE.saysInAllRuns("not less", house, pair[0], pair[1]);
            }
        }
    }

    private static void whereNoneComes() {
        RegisterHouse house = Houses.of("00");
        house.put(0, 1, 1, 0);
        house.put(7, 0, 1, 60);
        house.put(9, 1, 0, 0);
        DUE.saysInAllRuns("7 to none", house);
        house.clear();
        house.put(8, 2, 0, 0);
        house.put(9, 1, 0, 0);
        DUE.saysInAllRuns("8 to none", house);
        house.put(10, 0, 0, 0);
        DUE.is("8 to a step put later", house.run(0, 9), 0);
        DUE.latest("8 to a step put later", house, 2);
    }

    private static void saidBehindFifty() {
        RegisterHouse house = Houses.of("000");
        house.put(0, 1, 1, 0);
        house.put(0, 2, 60, 0);
        house.put(2, 0, 0, 1);
        house.put(9, 0, 0, 0);
        house.put(7, 0, 2, 2);
        for (int which = 0; which < 3; which++) {
            DUE.is("sixty said", house.run(which, 2000), 0);
            DUE.is("sixty said: made(1)", house.made(1), 60);
            for (int k = 0; k < 62; k++) {
                DUE.is("sixty said: said(" + k + ")", house.said(k), k < 50 ? k + 1 : 0);
            }
        }
        house.run(0, 4);
        DUE.latest("then one", house, 4, 1);
        DUE.is("then one: said(7)", house.said(7), 0);
    }

    /** Values, registers and slots are 0 when a run begins, memory is as it was told. */
    private static void anewEachTime() {
        RegisterHouse house = Houses.of("01");
        house.put(9, 0, 0, 0);
        house.put(9, 1, 0, 0);
        house.put(5, 0, 1, 3);
        house.put(9, 0, 0, 0);
        house.put(0, 0, 9, 0);
        house.put(0, 1, 0, 0);
        house.put(6, 0, 1, 3);
        house.put(0, 1, 9, 0);
        house.memory(3, 4);
        DUE.saysInAllRuns("anew", house, 0, 0, 4);
        DUE.is("anew: cell(3)", house.cell(3), 9);
        house.run(0, 0);
        DUE.is("anew: cell(3), none granted", house.cell(3), 4);
    }

    private static void slotsOfTwoClasses() {
        RegisterHouse house = Houses.of("0101");
        for (int v = 0; v < 4; v++) {
            house.put(0, v, 10 + v, 0);
        }
        for (int v = 0; v < 4; v++) {
            house.put(9, v, 0, 0);
        }
        house.put(3, 0, 2, 0);
        house.put(9, 0, 0, 0);
        house.put(3, 1, 1, 3);
        house.put(9, 1, 0, 0);
        DUE.saysInAllRuns("two classes", house, 10, 11, 12, 13, 2, -2);
    }

    private static void latestStays() {
        RegisterHouse house = Houses.of("0");
        house.put(9, 0, 0, 0);
        house.memory(1, 2);
        house.run(1, 20);
        house.memory(1, 3);
        house.put(9, 0, 0, 0);
        house.value(1);
        house.registers(0, 3);
        house.count(3);
        house.clear();
        DUE.latest("stays", house, 2, 0);
        DUE.is("stays: cell(1)", house.cell(1), 2);
    }
}
