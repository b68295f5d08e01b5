/** Promises 7 to 9: live, inWay, weight. */
final class FlowTest {
    private static final int NONE = RegisterHouse.NONE;
    private static final Due DUE = new Due("FlowTest");

    public static void main(String[] args) {
        liveByOp();
        liveAlongLine();
        liveRoundLoop();
        liveOverBranches();
        liveWhereNoneComes();
        liveBeforeUnreached();
        wrongNumbers();
        inWayByMaking();
        inWayByMove();
        inWayOfClass();
        weights();
        DUE.end();
    }

    private static void lives(String what, RegisterHouse house, int... due) {
        for (int step = 0; step < due.length; step++) {
            DUE.is(what + ": live(" + step + ")", house.live(step), due[step]);
        }
        DUE.is(what + ": live behind the last", house.live(due.length), NONE);
    }

    private static void ways(String what, RegisterHouse house, int... due) {
        for (int v = 0; v < due.length; v++) {
            DUE.is(what + ": inWay(" + v + ")", house.inWay(v), due[v]);
        }
        DUE.is(what + ": inWay behind the last", house.inWay(due.length), NONE);
    }

    private static void liveByOp() {
        int[] due = {0, 0b010, 0b110, 0b110, 0b110, 0b1000, 0b1001, 0b011, 0, 0b001, 0};
        for (int op = 0; op <= 10; op++) {
            RegisterHouse house = Houses.of("0001");
            boolean place = op == 5 || op == 6;
            house.put(op, 0, place ? 3 : 1, 2);
            lives("op " + op, house, due[op]);
        }
    }

    private static void liveAlongLine() {
        RegisterHouse house = Houses.of("000");
        house.put(0, 0, 5, 0);
        house.put(2, 0, 0, 1);
        house.put(3, 2, 0, 0);
        house.put(0, 0, 1, 0);
        house.put(9, 0, 0, 0);
        lives("line", house, 0b010, 0b011, 0b001, 0, 0b001);
    }

    private static void liveRoundLoop() {
        RegisterHouse house = Houses.of("000");
        house.put(0, 0, 3, 0);
        house.put(9, 2, 0, 0);
        house.put(0, 2, 7, 0);
        house.put(7, 1, 0, 1);
        house.put(10, 0, 0, 0);
        lives("loop", house, 0b110, 0b111, 0b011, 0b111, 0);
        // through many loops, each inside the next
        house = Houses.of("00");
        for (int step = 0; step < 58; step++) {
            house.put(7, 0, 0, 57 - step);
        }
        house.put(8, 0, 0, 0);
        house.put(9, 1, 0, 0);
        for (int step = 0; step < 58; step++) {
            DUE.is("loops: live(" + step + ")", house.live(step), 0b01);
        }
        DUE.is("loops: live(58)", house.live(58), 0b01);
        DUE.is("loops: live(59)", house.live(59), 0b10);
    }

    private static void liveOverBranches() {
        RegisterHouse house = Houses.of("0000");
        house.put(7, 0, 0, 3);
        house.put(9, 1, 0, 0);
        house.put(8, 4, 0, 0);
        house.put(9, 2, 0, 0);
        house.put(9, 3, 0, 0);
        lives("branches", house, 0b1111, 0b1010, 0b1000, 0b1100, 0b1000);
    }

    /** Steps to come next that there are not lead to the end, until they are put. */
    private static void liveWhereNoneComes() {
        RegisterHouse house = Houses.of("00");
        house.put(7, 0, 0, 60);
        house.put(7, 0, 0, 2);
        lives("7 to none", house, 1, 1);
        house.put(9, 1, 0, 0);
        lives("7 to one put later", house, 0b11, 0b11, 0b10);
        house.clear();
        house.put(8, 2, 0, 0);
        house.put(9, 1, 0, 0);
        lives("8 to none", house, 0, 0b10);
        house.put(9, 0, 0, 0);
        lives("8 to one put later", house, 0b01, 0b11, 0b01);
        house.clear();
        house.put(10, 0, 0, 0);
        house.put(9, 1, 0, 0);
        lives("behind 10", house, 0, 0b10);
        house.clear();
        house.put(8, 0, 0, 0);
        lives("8 to itself", house, 0);
        // the least sets: a loop keeps nothing alive that was live in other steps
        house.clear();
        house.put(9, 0, 0, 0);
        house.put(8, 0, 0, 0);
        lives("8 back to one that takes", house, 0b01, 0b01);
        house.clear();
        house.put(8, 1, 0, 0);
        house.put(8, 0, 0, 0);
        lives("8 back to one that does not", house, 0, 0);
    }

    private static void liveBeforeUnreached() {
        RegisterHouse house = Houses.of("000");
        house.put(10, 0, 0, 0);
        house.put(0, 0, 1, 0);
        house.put(2, 2, 0, 1);
        lives("unreached", house, 0, 0b010, 0b011);
        ways("unreached", house, 0b010, 0b001, 0);
        DUE.is("unreached: weight(0)", house.weight(0), 2);
    }

    private static void wrongNumbers() {
        RegisterHouse house = Houses.of("00");
        house.put(9, 1, 0, 0);
        for (int wrong : new int[] {Integer.MIN_VALUE, -1, 2, 24, 60, Integer.MAX_VALUE}) {
            DUE.is("live(" + wrong + ")", house.live(wrong), NONE);
            DUE.is("inWay(" + wrong + ")", house.inWay(wrong), NONE);
            DUE.is("weight(" + wrong + ")", house.weight(wrong), NONE);
        }
        DUE.is("live(1), a value but no step", house.live(1), NONE);
    }

    private static void inWayByMaking() {
        RegisterHouse house = Houses.of("0000");
        // 0 becomes anew for nothing, yet while 1 is live behind it
        house.put(0, 0, 5, 0);
        house.put(9, 1, 0, 0);
        // 2 is live before, but no more behind, this one
        house.put(2, 3, 2, 2);
        house.put(9, 3, 0, 0);
        ways("making", house, 0b0110, 0b0001, 0b0001, 0);
        // values that are live together, but neither becomes anew
        house = Houses.of("00");
        house.put(9, 0, 0, 0);
        house.put(9, 1, 0, 0);
        ways("only taken", house, 0, 0);
    }

    private static void inWayByMove() {
        RegisterHouse house = Houses.of("000");
        house.put(0, 0, 5, 0);
        house.put(1, 1, 0, 0);
        house.put(9, 0, 0, 0);
        house.put(9, 1, 0, 0);
        ways("move", house, 0, 0, 0);
        house.put(9, 2, 0, 0);
        ways("move beside another", house, 0b100, 0b100, 0b011);
        // another step still makes them so
        house.clear();
        house.put(1, 1, 0, 0);
        house.put(0, 1, 7, 0);
        house.put(9, 0, 0, 0);
        house.put(9, 1, 0, 0);
        ways("move and more", house, 0b010, 0b001, 0);
        house.clear();
        house.put(1, 0, 0, 0);
        house.put(9, 0, 0, 0);
        ways("move to itself", house, 0, 0, 0);
    }

    private static void inWayOfClass() {
        RegisterHouse house = Houses.of("0101");
        for (int v = 0; v < 4; v++) {
            house.put(0, v, v, 0);
        }
        for (int v = 0; v < 4; v++) {
            house.put(9, v, 0, 0);
        }
        ways("classes", house, 0b0100, 0b1000, 0b0001, 0b0010);
        house = Houses.of("000000000000000000000000");
        for (int v = 0; v < 24; v++) {
            house.put(0, v, v, 0);
        }
        for (int v = 0; v < 24; v++) {
            house.put(9, v, 0, 0);
        }
        for (int v = 0; v < 24; v++) {
            DUE.is("all: inWay(" + v + ")", house.inWay(v), 0xffffff & ~(1 << v));
        }
        DUE.is("all: live(24)", house.live(24), 0xffffff);
    }

    private static void weights() {
        int[][] due = {{1, 0, 0, 0}, {1, 1, 0, 0}, {1, 1, 1, 0}, {1, 1, 1, 0}, {1, 1, 1, 0}, {1, 0, 0, 1},
            {1, 0, 0, 1}, {1, 1, 0, 0}, {0, 0, 0, 0}, {1, 0, 0, 0}, {0, 0, 0, 0}};
        for (int op = 0; op <= 10; op++) {
            RegisterHouse house = Houses.of("0001");
            house.put(op, 0, op == 5 || op == 6 ? 3 : 1, 2);
            for (int v = 0; v < 4; v++) {
                DUE.is("op " + op + ": weight(" + v + ")", house.weight(v), due[op][v]);
            }
        }
        RegisterHouse house = Houses.of("01");
        house.put(2, 0, 0, 0);
        house.put(6, 1, 1, 1);
        house.put(7, 0, 0, 0);
        house.put(1, 1, 1, 0);
        DUE.is("each place counts: 0", house.weight(0), 5);
        DUE.is("each place counts: 1", house.weight(1), 4);
        house.clear();
        DUE.is("cleared", house.weight(0), 0);
    }
}
