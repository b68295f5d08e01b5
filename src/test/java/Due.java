/** Counts the answers that are not as due, and ends a test with exit code 1 if there was one. */
final class Due {
    private final String test;
    private Document document = null;
    private String edge = "";
    private int rows = 0;
    private int rowsBeforeEdge = 0;
    private int wrong = 0;

    Due(String test) {
        this.test = test;
    }

    /** The answers from here on follow from these words of the document, which stand in this section. */
    void edge(String section, String words) {
        closeEdge();
        if (document == null) {
            document = new Document(Document.PROMISES);
        }
        edge = section + ", \"" + words + "\": ";
        rowsBeforeEdge = rows;
        if (!document.says(section, words)) {
            complain("the document does not say so");
        }
    }

    private void closeEdge() {
        if (!edge.isEmpty() && rows == rowsBeforeEdge) {
            complain("nothing was asked");
        }
    }

    private void complain(String what) {
        wrong++;
        System.out.println(test + ": " + edge + what);
    }

    void is(String call, long got, long want) {
        rows++;
        if (got != want) {
            complain(call + " answered " + got + ", due is " + want);
        }
    }

    /** Op, x, y, z of each item, and that there are no more of them. */
    void items(String what, RegisterHouse house, int which, int[][] want) {
        is(what + ": how many items", house.count(which + 1), want.length);
        for (int i = 0; i < want.length; i++) {
            for (int part = 0; part < 4; part++) {
                is(what + ": item(" + which + ", " + i + ", " + part + ")",
                    house.item(which, i, part), want[i][part]);
            }
        }
        is(what + ": item behind the last", house.item(which, want.length, 0), RegisterHouse.NONE);
    }

    /** How many the latest run made, and all that it said. */
    void latest(String what, RegisterHouse house, int made, int... said) {
        is(what + ": made(0)", house.made(0), made);
        is(what + ": made(1)", house.made(1), said.length);
        for (int k = 0; k < said.length; k++) {
            is(what + ": said(" + k + ")", house.said(k), said[k]);
        }
        is(what + ": said behind the last", house.said(said.length), 0);
        is(what + ": said before the first", house.said(-1), 0);
    }

    /** All three runs end and say this: in slots alone, in few registers, in many. */
    void saysInAllRuns(String what, RegisterHouse house, int... said) {
        for (int[] many : new int[][] {{0, 0}, {1, 1}, {0, 8}, {8, 0}, {8, 8}}) {
            house.registers(0, many[0]);
            house.registers(1, many[1]);
            for (int which = 0; which < 3; which++) {
                String run = what + ", " + many[0] + " and " + many[1] + " registers, run " + which;
                is(run, house.run(which, 2000), 0);
                latest(run, house, house.made(0), said);
            }
        }
    }

    void end() {
        closeEdge();
        System.out.println(test + ": " + rows + " answers, " + wrong + " not as due");
        if (wrong != 0 || rows == 0) {
            System.exit(1);
        }
    }
}
