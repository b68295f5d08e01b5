/** Counts the answers that are not as due, and ends a test with exit code 1 if there was one. */
final class Due {
    private final String test;
    private int rows = 0;
    private int wrong = 0;

    Due(String test) {
        this.test = test;
    }

    void is(String call, long got, long want) {
        rows++;
        if (got != want) {
            wrong++;
            System.out.println(test + ": " + call + " answered " + got + ", due is " + want);
        }
    }

    /** Op, x, y, z of each item, and that there are no more of them. */
    void items(String what, RegisterHouse house, int which, int[][] want) {
        is(what + ": how many items", house.count(which + 1), want.length);
        for (int i = 0; i < want.length; i++) {
            for (int part = 0; part < 4; part++) {
                is(what + ": item(" + which + ", " + i + ", " + part + ")",
                    house.item(which, i, part), want[i][part]);
            }
        }
        is(what + ": item behind the last", house.item(which, want.length, 0), RegisterHouse.NONE);
    }

    void end() {
        System.out.println(test + ": " + rows + " answers, " + wrong + " not as due");
        if (wrong != 0 || rows == 0) {
            System.exit(1);
        }
    }
}
