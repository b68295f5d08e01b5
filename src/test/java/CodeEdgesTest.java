/** The edges that "Terms" names for code, tidied code and runs, each under its own words. */
final class CodeEdgesTest {
    private static final Due DUE = new Due("CodeEdgesTest");

    public static void main(String[] args) {
        fetchedOnce();
        fetchedToNine();
        madeInEight();
        movesWithoutItems();
        doesNotMatter();
        leadsToStepsWithoutItems();
        fetchBehindKeep();
        leadsToItemsTakenAway();
        behindTheEnd();
        beginsAnew();
        runsEnd();
        eachItemCounts();
        DUE.end();
    }

    private static int[] row(int... parts) {
        return parts;
    }

    private static void code(String what, RegisterHouse house, int[]... due) {
        DUE.items(what, house, 1, due);
    }

    private static void tidied(String what, RegisterHouse house, int[]... due) {
        DUE.items(what, house, 2, due);
    }

    private static RegisterHouse oneStep(String classes, int op, int a, int b, int c) {
        RegisterHouse house = Houses.of(classes);
        house.put(op, a, b, c);
        return house;
    }

    private static void fetchedOnce() {
        DUE.edge("Terms", "(one value is fetched once for a step)");
        int[] keep = row(12, 8, 0, 0);
        for (int op = 2; op <= 4; op++) {
            code(op + " of one value", oneStep("00", op, 0, 1, 1), row(11, 8, 0, 0), row(op, 8, 8, 8), keep);
            code(op + " of itself", oneStep("0", op, 0, 0, 0), row(11, 8, 0, 0), row(op, 8, 8, 8), keep);
        }
        code("6 of one value", oneStep("1", 6, 0, 0, 3), row(11, 24, 0, 0), row(6, 24, 24, 3));
        code("7 of one value", oneStep("0", 7, 0, 0, 0), row(11, 8, 0, 0), row(7, 8, 8, 0));
        RegisterHouse house = oneStep("0", 9, 0, 0, 0);
        house.put(9, 0, 0, 0);
        code("for each of two steps", house, row(11, 8, 0, 0), row(9, 8, 0, 0), row(11, 8, 0, 0), row(9, 8, 0, 0));
    }

    private static void fetchedToNine() {
        DUE.edge("Terms", "FETCH (op 11) into WORKING register 8 of its class, or 9, if another value of its class was "
            + "fetched for this step already");
        code("another value, even of the same slot", oneStep("000", 2, 0, 1, 2),
            row(11, 8, 0, 0), row(11, 9, 0, 0), row(2, 8, 8, 9), row(12, 8, 0, 0));
        code("another value of class 1", oneStep("11", 7, 0, 1, 0),
            row(11, 24, 0, 0), row(11, 25, 0, 0), row(7, 24, 25, 0));
        code("another value of another class", oneStep("01", 7, 0, 1, 0),
            row(11, 8, 0, 0), row(11, 24, 0, 0), row(7, 8, 24, 0));
        RegisterHouse house = Houses.of("00", 1, 0);
        house.put(0, 0, 1, 0);
        house.put(0, 1, 1, 0);
        house.put(7, 0, 1, 0);
        house.put(9, 0, 0, 0);
        // 0 has the register, so that it is not fetched before 1 is
        DUE.is("another value that is not fetched", house.item(1, 3, 1), 8);
        DUE.is("then the step", house.item(1, 4, 2), 8);
    }

    private static void madeInEight() {
        DUE.edge("Terms", "then the step itself, with registers for values (one that becomes anew and has a slot: 8)");
        code("a number", oneStep("0", 0, 0, 5, 0), row(0, 8, 5, 0), row(12, 8, 0, 0));
        code("a place", oneStep("1", 0, 0, 5, 0), row(0, 24, 5, 0), row(12, 24, 0, 0));
        RegisterHouse house = oneStep("01", 5, 0, 1, 63);
        house.registers(1, 8);
        code("in a slot, from a register", house, row(5, 8, 16, 63), row(12, 8, 0, 0));
        house.registers(0, 8);
        house.registers(1, 0);
        code("in a register, from a slot", house, row(11, 24, 0, 0), row(5, 0, 24, 63));
    }

    private static void movesWithoutItems() {
        DUE.edge("Terms", "A step 1 whose values have the same home (and class) makes none.");
        RegisterHouse house = Houses.of("001");
        house.put(1, 0, 1, 0);
        house.put(1, 2, 2, 0);
        code("same slots", house);
        tidied("same slots", house);
        DUE.is("no item would come", house.run(1, 0), 0);
        DUE.is("no tidied item would come", house.run(2, 0), 0);
        DUE.is("a step would come", house.run(0, 0), 1);
        house.registers(0, 1);
        code("same registers", house);
        house.put(1, 0, 2, 0);
        code("register 0 and slot 0", house, row(11, 24, 0, 0), row(1, 0, 24, 0));
        house.registers(1, 1);
        code("registers 0 of two classes", house, row(1, 0, 16, 0));
        house.registers(0, 0);
        house.registers(1, 0);
        code("slots 0 of two classes", house, row(11, 24, 0, 0), row(1, 8, 24, 0), row(12, 8, 0, 0));
    }

    private static void doesNotMatter() {
        DUE.edge("Terms", "what does not matter is 0.");
        int odd = Integer.MAX_VALUE;
        code("0", oneStep("0", 0, 0, -1, odd), row(0, 8, -1, 0), row(12, 8, 0, 0));
        code("1", oneStep("01", 1, 0, 1, odd), row(11, 24, 0, 0), row(1, 8, 24, 0), row(12, 8, 0, 0));
        code("8", oneStep("0", 8, 0, odd, odd), row(8, 0, 0, 0));
        code("9", oneStep("0", 9, 0, odd, odd), row(11, 8, 0, 0), row(9, 8, 0, 0));
        code("10", oneStep("0", 10, odd, odd, odd), row(10, 0, 0, 0));
    }

    private static void leadsToStepsWithoutItems() {
        DUE.edge("Terms", "steps to come next told by the number of the first item of that step, or, if it has none, of "
            + "the next one that has (how many items there are, if there is none)");
        RegisterHouse house = Houses.of("0", 1, 0);
        house.put(7, 0, 0, 1);
        house.put(1, 0, 0, 0);
        code("at the end", house, row(7, 0, 0, 1));
        house.put(1, 0, 0, 0);
        house.put(8, 2, 0, 0);
        code("two before one that has", house, row(7, 0, 0, 1), row(8, 1, 0, 0));
        house.put(1, 0, 0, 0);
        house.put(8, 4, 0, 0);
        house.put(1, 0, 0, 0);
        house.put(7, 0, 0, 6);
        house.put(8, 60, 0, 0);
        house.put(8, 10, 0, 0);
        code("of all kinds", house, row(7, 0, 0, 1), row(8, 1, 0, 0), row(8, 2, 0, 0), row(7, 0, 0, 3), row(8, 6, 0, 0),
            row(8, 6, 0, 0));
        house = Houses.of("0");
        house.put(8, 2, 0, 0);
        house.put(0, 0, 5, 0);
        house.put(9, 0, 0, 0);
        code("to a FETCH", house, row(8, 3, 0, 0), row(0, 8, 5, 0), row(12, 8, 0, 0), row(11, 8, 0, 0), row(9, 8, 0, 0));
        house = Houses.of("0", 1, 0);
        house.put(8, 59, 0, 0);
        house.put(8, 60, 0, 0);
        for (int step = 2; step < 60; step++) {
            house.put(1, 0, 0, 0);
        }
        code("58 at the end", house, row(8, 2, 0, 0), row(8, 2, 0, 0));
    }

    private static void fetchBehindKeep() {
        DUE.edge("Terms", "FETCH right behind KEEP with the same register and slot, to which no item leads");
        int[][] made = {row(0, 8, 5, 0), row(12, 8, 0, 0)};
        RegisterHouse house = Houses.of("0");
        house.put(0, 0, 5, 0);
        house.put(9, 0, 0, 0);
        tidied("no item leads to it", house, made[0], made[1], row(9, 8, 0, 0));
        house.put(7, 0, 0, 1);
        tidied("an item leads to it", house, made[0], made[1], row(11, 8, 0, 0), row(9, 8, 0, 0), row(11, 8, 0, 0),
            row(7, 8, 8, 2));
        house = Houses.of("01");
        house.put(0, 0, 5, 0);
        house.put(9, 1, 0, 0);
        tidied("slot 0 of another class", house, made[0], made[1], row(11, 24, 0, 0), row(9, 24, 0, 0));
        house = Houses.of("00");
        house.put(0, 0, 5, 0);
        house.put(9, 1, 0, 0);
        house.put(9, 1, 0, 0);
        tidied("another slot", house, row(0, 8, 5, 0), row(12, 8, 1, 0), row(11, 8, 0, 0), row(9, 8, 0, 0),
            row(11, 8, 0, 0), row(9, 8, 0, 0));
    }

    private static void leadsToItemsTakenAway() {
        DUE.edge("Terms", "What led to one that is taken away leads to that behind it.");
        RegisterHouse house = Houses.of("0", 1, 0);
        house.put(7, 0, 0, 1);
        house.put(8, 2, 0, 0);
        house.put(9, 0, 0, 0);
        tidied("one", house, row(7, 0, 0, 1), row(9, 0, 0, 0));
        house.clear();
        house.put(7, 0, 0, 1);
        house.put(8, 2, 0, 0);
        house.put(8, 3, 0, 0);
        house.put(9, 0, 0, 0);
        house.put(7, 0, 0, 2);
        tidied("two in a row", house, row(7, 0, 0, 1), row(9, 0, 0, 0), row(7, 0, 0, 1));
        house.clear();
        house.put(9, 0, 0, 0);
        house.put(8, 2, 0, 0);
        house.put(7, 0, 0, 1);
        tidied("that behind it is the one that led", house, row(9, 0, 0, 0), row(7, 0, 0, 1));
        house.clear();
        house.put(8, 1, 0, 0);
        house.put(7, 0, 0, 0);
        house.put(7, 0, 0, 3);
        tidied("the first item", house, row(7, 0, 0, 0), row(7, 0, 0, 2));
        house.clear();
        house.put(7, 0, 0, 1);
        house.put(8, 60, 0, 0);
        // the README's reading: what is behind the last item is the end
        tidied("the last item", house, row(7, 0, 0, 1));
    }

    private static void behindTheEnd() {
        DUE.edge("Terms", "any item right behind op 8 or 10, to which none leads.");
        RegisterHouse house = Houses.of("0", 1, 0);
        house.put(9, 0, 0, 0);
        house.put(10, 0, 0, 0);
        tidied("none is behind it", house, row(9, 0, 0, 0), row(10, 0, 0, 0));
        house.put(9, 0, 0, 0);
        house.put(8, 0, 0, 0);
        tidied("two are behind it", house, row(9, 0, 0, 0), row(10, 0, 0, 0));
        house.put(8, 4, 0, 0);
        // it leads to itself: one that leads, though none comes to it
        tidied("a third one, led to", house, row(9, 0, 0, 0), row(10, 0, 0, 0), row(8, 2, 0, 0));
        house.clear();
        house.put(8, 0, 0, 0);
        tidied("the first item", house, row(8, 0, 0, 0));
    }

    private static void beginsAnew() {
        DUE.edge("Terms", "all values, registers and slots are 0 at first, memory is as it was told");
        RegisterHouse house = Houses.of("01");
        house.memory(63, 4);
        house.put(9, 0, 0, 0);
        house.put(9, 1, 0, 0);
        house.put(5, 0, 1, 63);
        house.put(9, 0, 0, 0);
        house.put(0, 0, 9, 0);
        house.put(6, 0, 1, 63);
        house.put(0, 1, 9, 0);
        DUE.saysInAllRuns("once more", house, 0, 0, 4);
        DUE.is("left by the last of them: cell(63)", house.cell(63), 9);
    }

    private static void runsEnd() {
        DUE.edge("Terms", "They end at 10, behind the last one, or when they have made as many as are granted "
            + "and one more would come.");
        for (int which = 0; which < 3; which++) {
            RegisterHouse house = Houses.of("0", 1, 0);
            grants("nothing", house, which, 0);
            house.put(9, 0, 0, 0);
            grants("one that says", house, which, 1);
            house.put(10, 0, 0, 0);
            grants("10 behind it", house, which, 2);
            house.put(9, 0, 0, 0);
            grants("another behind 10", house, which, 2);
            house.clear();
            house.put(10, 0, 0, 0);
            grants("10 alone", house, which, 1);
            house.clear();
            house.put(7, 0, 0, 0);
            grants("7 as the last one", house, which, 1);
        }
    }

    /** So many are made, and one less than that many granted is not enough. */
    private static void grants(String what, RegisterHouse house, int which, int made) {
        for (int granted = 0; granted <= made + 1; granted++) {
            String run = what + ": run(" + which + ", " + granted + ")";
            DUE.is(run, house.run(which, granted), granted < made ? 1 : 0);
            DUE.is(run + ", made(0)", house.made(0), Math.min(granted, made));
        }
    }

    private static void eachItemCounts() {
        DUE.edge("Terms", "each step, or item, counts one.");
        RegisterHouse house = Houses.of("0");
        house.put(0, 0, 5, 0);
        house.put(9, 0, 0, 0);
        grants("steps", house, 0, 2);
        grants("items with KEEP and FETCH", house, 1, 4);
        grants("items with KEEP", house, 2, 3);
    }
}
