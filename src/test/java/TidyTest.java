/** Promises 12 and 13 for the tidied code: count, item. */
final class TidyTest {
    private static final Due DUE = new Due("TidyTest");

    public static void main(String[] args) {
        fetchBehindKeep();
        fetchThatIsLedTo();
        fetchOfAnother();
        fetchNotRightBehind();
        goToNext();
        goToEnd();
        behindGoAndEnd();
        goToItself();
        oneMakesAnother();
        fetchBehindGoneItem();
        leadsMove();
        codeStays();
        DUE.end();
    }

    private static void tidied(String what, RegisterHouse house, int[]... due) {
        DUE.items(what, house, 2, due);
    }

    private static int[] row(int... parts) {
        return parts;
    }

    private static void fetchBehindKeep() {
        RegisterHouse house = Houses.of("01", 0, 0);
        house.put(0, 0, 5, 0);
        house.put(9, 0, 0, 0);
        house.put(0, 1, 6, 0);
        house.put(9, 1, 0, 0);
        tidied("fetch behind keep", house, row(0, 8, 5, 0), row(12, 8, 0, 0), row(9, 8, 0, 0),
            row(0, 24, 6, 0), row(12, 24, 0, 0), row(9, 24, 0, 0));
    }

    private static void fetchThatIsLedTo() {
        RegisterHouse house = Houses.of("0", 0, 0);
        house.put(0, 0, 5, 0);
        house.put(9, 0, 0, 0);
        house.put(8, 1, 0, 0);
        tidied("by 8", house, row(0, 8, 5, 0), row(12, 8, 0, 0), row(11, 8, 0, 0), row(9, 8, 0, 0), row(8, 2, 0, 0));
        house.clear();
        house.put(0, 0, 5, 0);
        house.put(7, 0, 0, 1);
        tidied("by 7", house, row(0, 8, 5, 0), row(12, 8, 0, 0), row(11, 8, 0, 0), row(7, 8, 8, 2));
    }

    /** Another slot, or the same slot number of the other class. */
    private static void fetchOfAnother() {
        RegisterHouse house = Houses.of("001", 0, 0);
        house.put(0, 0, 5, 0);
        house.put(0, 1, 6, 0);
        house.put(2, 2, 0, 1);
        house.put(9, 1, 0, 0);
        // 1 is heavier than 0: it has slot 0
        tidied("another slot, another class", house, row(0, 8, 5, 0), row(12, 8, 1, 0), row(0, 8, 6, 0),
            row(12, 8, 0, 0), row(11, 8, 1, 0), row(11, 9, 0, 0), row(2, 24, 8, 9), row(12, 24, 0, 0),
            row(11, 8, 0, 0), row(9, 8, 0, 0));
    }

    private static void fetchNotRightBehind() {
        RegisterHouse house = Houses.of("00", 1, 0);
        house.put(0, 1, 5, 0);
        house.put(0, 0, 6, 0);
        house.put(9, 1, 0, 0);
        house.put(9, 0, 0, 0);
        house.put(9, 0, 0, 0);
        tidied("not right behind", house, row(0, 8, 5, 0), row(12, 8, 0, 0), row(0, 0, 6, 0), row(11, 8, 0, 0),
            row(9, 8, 0, 0), row(9, 0, 0, 0), row(9, 0, 0, 0));
    }

    private static void goToNext() {
        RegisterHouse house = Houses.of("0", 1, 0);
        house.put(9, 0, 0, 0);
        house.put(8, 2, 0, 0);
        house.put(9, 0, 0, 0);
        house.put(8, 5, 0, 0);
        house.put(1, 0, 0, 0);
        house.put(9, 0, 0, 0);
        tidied("to the next", house, row(9, 0, 0, 0), row(9, 0, 0, 0), row(9, 0, 0, 0));
        house.clear();
        house.put(7, 0, 0, 1);
        house.put(9, 0, 0, 0);
        tidied("7 to the next stays", house, row(7, 0, 0, 1), row(9, 0, 0, 0));
    }

    /** What is next to the last item is the end. */
    private static void goToEnd() {
        RegisterHouse house = Houses.of("0", 1, 0);
        house.put(9, 0, 0, 0);
        house.put(8, 60, 0, 0);
        tidied("to the end", house, row(9, 0, 0, 0));
        house.clear();
        house.put(7, 0, 0, 2);
        house.put(9, 0, 0, 0);
        house.put(8, 3, 0, 0);
        tidied("led to, to the end", house, row(7, 0, 0, 2), row(9, 0, 0, 0));
    }

    private static void behindGoAndEnd() {
        RegisterHouse house = Houses.of("0", 1, 0);
        house.put(7, 0, 0, 4);
        house.put(10, 0, 0, 0);
        house.put(9, 0, 0, 0);
        house.put(0, 0, 3, 0);
        house.put(9, 0, 0, 0);
        house.put(8, 0, 0, 0);
        house.put(9, 0, 0, 0);
        house.put(10, 0, 0, 0);
        tidied("behind 8 and 10", house, row(7, 0, 0, 2), row(10, 0, 0, 0), row(9, 0, 0, 0), row(8, 0, 0, 0));
        house.clear();
        house.put(10, 0, 0, 0);
        house.put(10, 0, 0, 0);
        house.put(10, 0, 0, 0);
        tidied("10 behind 10", house, row(10, 0, 0, 0));
    }

    private static void goToItself() {
        RegisterHouse house = Houses.of("0", 1, 0);
        house.put(10, 0, 0, 0);
        house.put(8, 1, 0, 0);
        tidied("8 to itself", house, row(10, 0, 0, 0), row(8, 1, 0, 0));
        house.clear();
        house.put(10, 0, 0, 0);
        house.put(8, 2, 0, 0);
        house.put(9, 0, 0, 0);
        house.put(8, 1, 0, 0);
        tidied("unreached, but led to", house, row(10, 0, 0, 0), row(9, 0, 0, 0), row(8, 1, 0, 0));
    }

    private static void oneMakesAnother() {
        RegisterHouse house = Houses.of("0", 1, 0);
        house.put(8, 2, 0, 0);
        house.put(9, 0, 0, 0);
        house.put(9, 0, 0, 0);
        tidied("8 to the next, when one is gone", house, row(9, 0, 0, 0));
        house.clear();
        house.put(10, 0, 0, 0);
        house.put(8, 3, 0, 0);
        house.put(10, 0, 0, 0);
        house.put(9, 0, 0, 0);
        tidied("led to by one that goes", house, row(10, 0, 0, 0));
    }

    /** KEEP and FETCH come together when the op 8 between them goes. */
    private static void fetchBehindGoneItem() {
        RegisterHouse house = Houses.of("0", 0, 0);
        house.put(0, 0, 5, 0);
        house.put(8, 2, 0, 0);
        house.put(9, 0, 0, 0);
        tidied("8 between", house, row(0, 8, 5, 0), row(12, 8, 0, 0), row(9, 8, 0, 0));
        house.put(7, 0, 0, 1);
        tidied("8 between, led to", house, row(0, 8, 5, 0), row(12, 8, 0, 0), row(11, 8, 0, 0), row(9, 8, 0, 0),
            row(11, 8, 0, 0), row(7, 8, 8, 2));
    }

    private static void leadsMove() {
        RegisterHouse house = Houses.of("0", 1, 0);
        house.put(7, 0, 0, 6);
        house.put(8, 2, 0, 0);
        house.put(7, 0, 0, 1);
        house.put(10, 0, 0, 0);
        house.put(9, 0, 0, 0);
        house.put(9, 0, 0, 0);
        house.put(9, 0, 0, 0);
        house.put(7, 0, 0, 60);
        house.put(8, 0, 0, 0);
        tidied("leads", house, row(7, 0, 0, 3), row(7, 0, 0, 1), row(10, 0, 0, 0), row(9, 0, 0, 0), row(7, 0, 0, 6),
            row(8, 0, 0, 0));
    }

    private static void codeStays() {
        RegisterHouse house = Houses.of("0", 1, 0);
        house.put(8, 1, 0, 0);
        house.put(9, 0, 0, 0);
        tidied("tidied", house, row(9, 0, 0, 0));
        DUE.items("code", house, 1, new int[][] {{8, 1, 0, 0}, {9, 0, 0, 0}});
        house.put(8, 3, 0, 0);
        house.put(9, 0, 0, 0);
        tidied("tidied anew", house, row(9, 0, 0, 0), row(9, 0, 0, 0));
        house.clear();
        tidied("cleared", house);
    }
}
