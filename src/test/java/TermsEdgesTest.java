/** The edges that "Terms" names for what is told, what is live and homes, each under its own words. */
final class TermsEdgesTest {
    private static final int NONE = RegisterHouse.NONE;
    private static final int LEAST = Integer.MIN_VALUE;
    private static final int MOST = Integer.MAX_VALUE;
    private static final Due DUE = new Due("TermsEdgesTest");

    public static void main(String[] args) {
        mostValues();
        mostSteps();
        runningOver();
        numbersBesideCells();
        stepsToComeNext();
        noSuchStepIsTheEnd();
        placesOverCells();
        followersThatThereAreNot();
        leastSets();
        ownTwo();
        sameWeight();
        noRegistersAtFirst();
        joinedEitherWay();
        noneFree();
        leastSlot();
        DUE.end();
    }

    private static void homes(String what, RegisterHouse house, int... due) {
        for (int v = 0; v < due.length; v++) {
            DUE.is(what + ": home(" + v + ")", house.home(v), due[v]);
        }
    }

    private static void mostValues() {
        DUE.edge("Terms", "VALUES are numbered from 0, at most 24");
        RegisterHouse house = new RegisterHouse();
        for (int v = 0; v < 24; v++) {
            DUE.is("value " + v, house.value(v % 2), v);
        }
        DUE.is("value(0), the 25th", house.value(0), NONE);
        DUE.is("value(1), the 25th", house.value(1), NONE);
        DUE.is("count(0)", house.count(0), 24);
        DUE.is("the last is a value", house.put(9, 23, 0, 0), 0);
        DUE.is("there is none behind it", house.put(9, 24, 0, 0), NONE);
    }

    private static void mostSteps() {
        DUE.edge("Terms", "STEPS are numbered from 0, at most 60; n steps end behind number n - 1.");
        RegisterHouse house = Houses.of("0");
        DUE.is("no steps: run", house.run(0, 0), 0);
        for (int step = 0; step < 60; step++) {
            DUE.is("step " + step, house.put(9, 0, 0, 0), step);
            DUE.is("one more than are granted", house.run(0, step), 1);
            DUE.is("as many as are granted", house.run(0, step + 1), 0);
            DUE.is("made", house.made(0), step + 1);
        }
        DUE.is("the 61st", house.put(9, 0, 0, 0), NONE);
        DUE.is("the 61st, another op", house.put(10, 0, 0, 0), NONE);
        DUE.is("count(1)", house.count(1), 60);
    }

    /** Makes two values, joins them by an op and says what comes of it. */
    private static void makes(String classes, int op, int b, int c, int due) {
        RegisterHouse house = Houses.of(classes);
        house.put(0, 1, b, 0);
        house.put(0, 2, c, 0);
        house.put(op, 0, 1, 2);
        house.put(9, 0, 0, 0);
        DUE.saysInAllRuns("classes " + classes + ", op " + op + " of " + b + " and " + c, house, due);
    }

    private static void runningOver() {
        DUE.edge("Terms", "values are ints that run over");
        for (String classes : new String[] {"000", "111", "010", "101"}) {
            makes(classes, 2, MOST, 1, LEAST);
            makes(classes, 2, LEAST, -1, MOST);
            makes(classes, 2, LEAST, LEAST, 0);
            makes(classes, 2, MOST, MOST, -2);
            makes(classes, 3, LEAST, 1, MOST);
            makes(classes, 3, MOST, -1, LEAST);
            makes(classes, 3, 0, LEAST, LEAST);
            makes(classes, 3, -2, MOST, MOST);
        }
        makes("000", 4, LEAST, -1, LEAST);
        makes("000", 4, 65536, 65536, 0);
        makes("000", 4, 46341, 46341, -2147479015);
        makes("000", 4, MOST, MOST, 1);
        makes("000", 4, MOST, 2, -2);
        lessAtTheEdges();
    }

    /** A difference that runs over must not tell which one is less. */
    private static void lessAtTheEdges() {
        RegisterHouse house = Houses.of("01");
        house.put(0, 0, LEAST, 0);
        house.put(0, 1, MOST, 0);
        house.put(7, 0, 1, 4);
        house.put(9, 0, 0, 0);
        house.put(7, 1, 0, 6);
        house.put(9, 1, 0, 0);
        DUE.saysInAllRuns("least is less than most", house, MOST);
    }

    private static void numbersBesideCells() {
        DUE.edge("Terms", "(c from 0 to 63)");
        RegisterHouse house = Houses.of("01");
        house.memory(0, 10);
        house.memory(63, 73);
        for (int op = 5; op <= 6; op++) {
            for (int c : new int[] {LEAST, -1, 64, 65, MOST}) {
                DUE.is("put(" + op + ", 0, 1, " + c + ")", house.put(op, 0, 1, c), NONE);
            }
        }
        DUE.is("put(5, 0, 1, 0)", house.put(5, 0, 1, 0), 0);
        house.put(9, 0, 0, 0);
        DUE.is("put(5, 0, 1, 63)", house.put(5, 0, 1, 63), 2);
        house.put(9, 0, 0, 0);
        DUE.saysInAllRuns("cells 0 and 63", house, 10, 73);
        house.clear();
        house.put(0, 0, 5, 0);
        DUE.is("put(6, 0, 1, 0)", house.put(6, 0, 1, 0), 1);
        DUE.is("put(6, 0, 1, 63)", house.put(6, 0, 1, 63), 2);
        for (int which = 0; which < 3; which++) {
            house.run(which, 20);
            DUE.is("run " + which + ": cell(0)", house.cell(0), 5);
            DUE.is("run " + which + ": cell(1)", house.cell(1), 0);
            DUE.is("run " + which + ": cell(62)", house.cell(62), 0);
            DUE.is("run " + which + ": cell(63)", house.cell(63), 5);
        }
    }

    private static void stepsToComeNext() {
        DUE.edge("Terms", "Steps to come next are told by 0 .. 60");
        RegisterHouse house = Houses.of("0");
        for (int wrong : new int[] {LEAST, -1, 61, 62, MOST}) {
            DUE.is("put(7, 0, 0, " + wrong + ")", house.put(7, 0, 0, wrong), NONE);
            DUE.is("put(8, " + wrong + ", 0, 0)", house.put(8, wrong, 0, 0), NONE);
        }
        DUE.is("put(7, 0, 0, 0)", house.put(7, 0, 0, 0), 0);
        DUE.is("put(7, 0, 0, 60)", house.put(7, 0, 0, 60), 1);
        DUE.is("put(8, 60, 0, 0)", house.put(8, 60, 0, 0), 2);
        DUE.is("put(8, 0, 0, 0)", house.put(8, 0, 0, 0), 3);
    }

    /** One step that leads, then so many that say 0. */
    private static RegisterHouse leading(int op, int to, int sayers) {
        RegisterHouse house = Houses.of("00");
        house.put(0, 1, 1, 0);
        house.put(op, op == 7 ? 0 : to, 1, to);
        for (int k = 0; k < sayers; k++) {
            house.put(9, 0, 0, 0);
        }
        return house;
    }

    private static void noSuchStepIsTheEnd() {
        DUE.edge("Terms", "where there is none, that is the end.");
        for (int op = 7; op <= 8; op++) {
            DUE.saysInAllRuns(op + " to the last of 4", leading(op, 3, 2), 0);
            DUE.saysInAllRuns(op + " to the first that there is not", leading(op, 4, 2));
            DUE.saysInAllRuns(op + " to 60 of 4", leading(op, 60, 2));
            DUE.saysInAllRuns(op + " to the last of 60", leading(op, 59, 58), 0);
            DUE.saysInAllRuns(op + " to 60 of 60", leading(op, 60, 58));
            RegisterHouse house = leading(op, 4, 2);
            DUE.is(op + " to none: run", house.run(0, 9), 0);
            DUE.latest(op + " to none", house, 2);
            house.put(9, 0, 0, 0);
            DUE.saysInAllRuns(op + " to one put later", house, 0);
            house = Houses.of("00");
            house.put(op, 0, 1, 0);
            DUE.is(op + " to step 0: follows itself", house.run(0, 2000), op == 7 ? 0 : 1);
            DUE.latest(op + " to step 0", house, op == 7 ? 1 : 2000);
        }
    }

    private static void placesOverCells() {
        DUE.edge("Terms", "MEMORY has 64 cells; places are taken without what is over 64 (-1 is cell 63).");
        int[][] rows = {{0, 0, 0}, {63, 0, 63}, {64, 0, 0}, {65, 0, 1}, {63, 1, 0}, {0, 63, 63}, {1, 63, 0}, {-1, 0, 63},
            {-1, 1, 0}, {-64, 0, 0}, {-65, 0, 63}, {-64, 63, 63}, {MOST, 0, 63}, {MOST, 1, 0}, {MOST, 63, 62},
            {LEAST, 0, 0}, {LEAST, 63, 63}};
        for (int[] row : rows) {
            takenFrom(row[0], row[1], row[2]);
            putInto(row[0], row[1], row[2]);
        }
    }

    private static void takenFrom(int place, int more, int cell) {
        RegisterHouse house = Houses.of("01");
        for (int k = 0; k < 64; k++) {
            house.memory(k, 100 + k);
        }
        house.put(0, 1, place, 0);
        house.put(5, 0, 1, more);
        house.put(9, 0, 0, 0);
        DUE.saysInAllRuns("from " + place + " and " + more + " more", house, 100 + cell);
    }

    private static void putInto(int place, int more, int cell) {
        RegisterHouse house = Houses.of("01");
        house.put(0, 1, place, 0);
        house.put(0, 0, 5, 0);
        house.put(6, 0, 1, more);
        for (int which = 0; which < 3; which++) {
            DUE.is("run " + which, house.run(which, 20), 0);
            for (int k = 0; k < 64; k++) {
                DUE.is("into " + place + " and " + more + " more: cell(" + k + ")", house.cell(k), k == cell ? 5 : 0);
            }
        }
    }

    private static void followersThatThereAreNot() {
        DUE.edge("Terms", "The steps that FOLLOW a step: the next one, but for 8 and 10, and step c or a of 7 and 8, "
            + "as far as there are such.");
        RegisterHouse house = Houses.of("000");
        house.put(9, 0, 0, 0);
        DUE.is("none behind the last one", house.live(0), 0b001);
        house.put(7, 1, 1, 60);
        DUE.is("7 to none, and none next", house.live(1), 0b010);
        house.put(9, 2, 0, 0);
        DUE.is("7 to none, and one next", house.live(1), 0b110);
        house.clear();
        house.put(8, 2, 0, 0);
        house.put(9, 0, 0, 0);
        DUE.is("8 to none", house.live(0), 0);
        house.put(9, 1, 0, 0);
        DUE.is("8 to the last", house.live(0), 0b010);
        house.clear();
        house.put(10, 0, 0, 0);
        house.put(9, 0, 0, 0);
        DUE.is("10", house.live(0), 0);
        house.clear();
        for (int step = 0; step < 59; step++) {
            house.put(8, step == 0 ? 59 : 60, 0, 0);
        }
        house.put(9, 2, 0, 0);
        DUE.is("8 to step 59", house.live(0), 0b100);
        DUE.is("8 to 60 beside step 59", house.live(58), 0);
    }

    private static void leastSets() {
        DUE.edge("Terms", "(The least such sets; all steps count, whether they are ever come to or not.)");
        RegisterHouse house = Houses.of("00");
        house.put(10, 0, 0, 0);
        house.put(0, 0, 5, 0);
        house.put(2, 0, 0, 1);
        DUE.is("behind 10: live(0)", house.live(0), 0);
        DUE.is("behind 10: live(1)", house.live(1), 0b10);
        DUE.is("behind 10: live(2)", house.live(2), 0b11);
        DUE.is("behind 10: inWay(0)", house.inWay(0), 0b10);
        DUE.is("behind 10: weight(0)", house.weight(0), 3);
        house.clear();
        house.put(9, 0, 0, 0);
        house.put(8, 0, 0, 0);
        DUE.is("a loop that takes 0: live(0)", house.live(0), 0b01);
        DUE.is("a loop that takes 0: live(1)", house.live(1), 0b01);
        house.clear();
        // what was live before the steps that were there must not go round in this one
        house.put(8, 1, 0, 0);
        house.put(8, 0, 0, 0);
        DUE.is("a loop that takes nothing: live(0)", house.live(0), 0);
        DUE.is("a loop that takes nothing: live(1)", house.live(1), 0);
    }

    private static void ownTwo() {
        DUE.edge("Terms", "step 1 does not make its own two so.");
        for (String classes : new String[] {"000", "111"}) {
            RegisterHouse house = Houses.of(classes);
            house.put(1, 0, 1, 0);
            house.put(9, 0, 0, 0);
            house.put(9, 1, 0, 0);
            DUE.is("its own two: inWay(0)", house.inWay(0), 0);
            DUE.is("its own two: inWay(1)", house.inWay(1), 0);
            house.put(9, 2, 0, 0);
            DUE.is("a third one: inWay(0)", house.inWay(0), 0b100);
            DUE.is("a third one: inWay(1)", house.inWay(1), 0);
            house.clear();
            house.put(1, 0, 1, 0);
            house.put(2, 0, 0, 0);
            house.put(9, 0, 0, 0);
            house.put(9, 1, 0, 0);
            DUE.is("another step makes them so: inWay(0)", house.inWay(0), 0b010);
            DUE.is("another step makes them so: inWay(1)", house.inWay(1), 0b001);
        }
    }

    private static void sameWeight() {
        DUE.edge("Terms", "those of greater weight first, of the same weight lesser numbers first.");
        RegisterHouse house = Houses.of("000", 1, 0);
        Houses.crowd(house, 2, 1, 0);
        homes("the same weight", house, 0, 100, 101);
        house.put(9, 2, 0, 0);
        homes("one more for 2", house, 100, 101, 0);
        house.put(9, 1, 0, 0);
        homes("one more for 1, too", house, 101, 0, 100);
    }

    private static void noRegistersAtFirst() {
        DUE.edge("Terms", "There are registers 0 .. r - 1 of a class, with r as told, 0 at first");
        RegisterHouse house = Houses.of("01");
        homes("none told", house, 100, 100);
        house.put(9, 0, 0, 0);
        house.put(9, 1, 0, 0);
        DUE.items("none told", house, 1, new int[][] {{11, 8, 0, 0}, {9, 8, 0, 0}, {11, 24, 0, 0}, {9, 24, 0, 0}});
        house.registers(0, 1);
        homes("one of class 0 told", house, 0, 100);
        house.registers(0, 0);
        house.registers(1, 1);
        homes("one of class 1 told", house, 100, 0);
        house = Houses.of("000000000", 8, 0);
        Houses.crowd(house, Houses.upTo(9));
        homes("r = 8", house, 0, 1, 2, 3, 4, 5, 6, 7, 100);
    }

    private static void joinedEitherWay() {
        DUE.edge("Terms", "It gets the least free one that is home to a value of its class with which a step 1 joins it "
            + "(either way round); if there is none, the least free one");
        // 0 and 1 have registers 0 and 1, so that 2 would get register 0
        for (int[] move : new int[][] {{2, 1}, {1, 2}, {2, 2}}) {
            RegisterHouse house = Houses.of("000", 2, 0);
            Houses.crowd(house, 0, 1);
            house.put(9, 0, 0, 0);
            house.put(9, 0, 0, 0);
            house.put(10, 0, 0, 0);
            house.put(1, move[0], move[1], 0);
            homes("move of " + move[1] + " to " + move[0], house, 0, 1, move[0] == move[1] ? 0 : 1);
        }
        RegisterHouse house = Houses.of("001", 2, 2);
        Houses.crowd(house, 0, 1);
        house.put(9, 0, 0, 0);
        house.put(9, 0, 0, 0);
        house.put(1, 2, 1, 0);
        homes("move between classes", house, 0, 1, 0);
    }

    private static void noneFree() {
        DUE.edge("Terms", "if none is free, the least SLOT of its class, of 0, 1, ..");
        for (int many = 0; many <= 3; many++) {
            RegisterHouse house = Houses.of("000111", many, many);
            Houses.crowd(house, 0, 1, 2, 3, 4, 5);
            for (int v = 0; v < 6; v++) {
                int turn = v % 3;
                DUE.is(many + " registers: home(" + v + ")", house.home(v), turn < many ? turn : 100 + turn - many);
            }
            DUE.is(many + " registers: count(4)", house.count(4), 3 - many);
            DUE.is(many + " registers: count(5)", house.count(5), 3 - many);
        }
    }

    private static void leastSlot() {
        DUE.edge("Terms", "that is home to none in its way");
        RegisterHouse house = Houses.of("0000", 1, 0);
        house.put(0, 0, 1, 0);
        house.put(0, 1, 1, 0);
        house.put(0, 2, 1, 0);
        house.put(9, 1, 0, 0);
        // 1 is done with: 3 is in the way of 0 and 2 alone
        house.put(0, 3, 1, 0);
        house.put(9, 3, 0, 0);
        house.put(9, 2, 0, 0);
        house.put(9, 0, 0, 0);
        homes("slot 0 again", house, 0, 100, 101, 100);
        DUE.is("slot 0 again: count(4)", house.count(4), 2);
    }
}
