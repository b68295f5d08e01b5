import java.util.List;
import java.util.Set;

/**
 * Programs of many shapes, every answer held against the model's.
 *
 * It asks one object more than the 512 calls that the document speaks of: the class counts no calls,
 * and this way answers are also asked for behind changes.
 */
final class ModelTest {
    private static final int PROGRAMS = 700;
    private static final Due DUE = new Due("ModelTest");

    /** A fixed series of numbers, so that each run of the test is the same. */
    private long series = 20261115L;
    private final RegisterHouse house = new RegisterHouse();
    private final Model model = new Model();
    private final int program;
    private int cutOff = 0;

    private ModelTest(int program) {
        this.program = program;
        this.series += 7919L * program;
    }

    public static void main(String[] args) {
        int cutOff = 0;
        for (int k = 0; k < PROGRAMS; k++) {
            ModelTest test = new ModelTest(k);
            test.tellValues();
            test.tellSteps();
            test.compare();
            test.changeSome();
            test.compare();
            cutOff += test.cutOff;
        }
        DUE.is("programs whose steps end with 300 granted, but not their code, were among them",
            cutOff > 0 ? 1 : 0, 1);
        DUE.end();
    }

    private int any(int below) {
        series = series * 6364136223846793005L + 1442695040888963407L;
        return (int) ((series >>> 33) % below);
    }

    private void is(String call, long got, long want) {
        DUE.is("program " + program + ": " + call, got, want);
    }

    private void tellValues() {
        int many = program % 5 == 0 ? 1 + any(24) : 1 + any(7);
        for (int v = 0; v < many; v++) {
            int c = any(3) / 2;
            is("value", house.value(c), v);
            model.classes.add(c);
        }
        tellRegisters();
        for (int k = 0; k < 8; k++) {
            int cell = any(64);
            model.memory[cell] = any(100) - 50;
            is("memory", house.memory(cell, model.memory[cell]), 1);
        }
    }

    private void tellRegisters() {
        for (int c = 0; c < 2; c++) {
            model.registers[c] = any(3) == 0 ? any(9) : any(4);
            is("registers", house.registers(c, model.registers[c]), 1);
        }
    }

    private void tellSteps() {
        int many = program % 7 == 0 ? 60 : any(30);
        if (program % 3 == 0 && model.classes.size() >= 3) {
            tellLoop(4 + any(90));
        }
        for (int tries = 0; tries < 200 && model.steps.size() < many; tries++) {
            tellStep(any(13), any(model.classes.size()), number(), number(), many);
        }
    }

    /** A loop that ends, so that long runs are among those that end. */
    private void tellLoop(int turns) {
        tell(0, 0, turns, 0);
        tell(0, 1, 1, 0);
        tell(3, 0, 0, 1);
        tell(9, 0, 0, 0);
        tell(1, 2, 0, 0);
        tell(7, 1, 2, 2);
    }

    private int number() {
        return any(4) == 0 ? any(64) : any(model.classes.size());
    }

    private void tellStep(int op, int a, int b, int c, int many) {
        switch (op) {
            case 7:
                tell(7, a, b, any(many + 2));
                break;
            case 8:
                tell(8, any(many + 2), b, c);
                break;
            case 10:
                tell(any(3) == 0 ? 10 : 9, a, b, c);
                break;
            case 11:
            case 12:
                tell(1, a, b, c);
                break;
            default:
                tell(op, a, b, c);
                break;
        }
    }

    private void tell(int op, int a, int b, int c) {
        int number = house.put(op, a, b, c);
        boolean fine = fits(op, a, b, c) && model.steps.size() < 60;
        is("put(" + op + ", " + a + ", " + b + ", " + c + ")", number, fine ? model.steps.size() : -1);
        if (fine) {
            model.steps.add(new int[] {op, a, b, c});
        }
    }

    private int classOf(int v) {
        return v >= 0 && v < model.classes.size() ? model.classes.get(v) : -1;
    }

    private boolean fits(int op, int a, int b, int c) {
        switch (op) {
            case 0: case 9: return classOf(a) >= 0;
            case 1: return classOf(a) >= 0 && classOf(b) >= 0;
            case 2: case 3: return classOf(a) >= 0 && classOf(b) >= 0 && classOf(c) >= 0;
            case 4: return classOf(a) == 0 && classOf(b) == 0 && classOf(c) == 0;
            case 5: case 6: return classOf(a) >= 0 && classOf(b) == 1 && c >= 0 && c <= 63;
            case 7: return classOf(a) >= 0 && classOf(b) >= 0 && c >= 0 && c <= 60;
            case 8: return a >= 0 && a <= 60;
            default: return op == 10;
        }
    }

    /** Changes the told things behind answers that were worked out before. */
    private void changeSome() {
        switch (program % 4) {
            case 0:
                tellRegisters();
                break;
            case 1:
                is("value", house.value(1), model.classes.size() < 24 ? model.classes.size() : -1);
                if (model.classes.size() < 24) {
                    model.classes.add(1);
                }
                break;
            case 2:
                tell(9, 0, 0, 0);
                break;
            default:
                is("clear", house.clear(), model.steps.size());
                model.steps.clear();
                tell(0, 0, 5, 0);
                tell(9, 0, 0, 0);
                break;
        }
    }

    private static int bits(Set<Integer> values) {
        int bits = 0;
        for (int v : values) {
            bits |= 1 << v;
        }
        return bits;
    }

    private void compare() {
        int values = model.classes.size();
        for (int i = 0; i < model.steps.size(); i++) {
            is("live(" + i + ")", house.live(i), bits(model.live(i)));
        }
        List<Set<Integer>> ways = model.inWay();
        for (int v = 0; v < values; v++) {
            is("inWay(" + v + ")", house.inWay(v), bits(ways.get(v)));
            is("weight(" + v + ")", house.weight(v), model.weight(v));
            is("home(" + v + ")", house.home(v), model.homes().get(v));
            is("order(" + v + ")", house.order(v), model.order().get(v));
        }
        is("count(0)", house.count(0), values);
        is("count(1)", house.count(1), model.steps.size());
        is("count(4)", house.count(4), model.slots(0));
        is("count(5)", house.count(5), model.slots(1));
        compareItems(2, model.tidied());
        compareItems(1, model.code());
        compareRun(0, model.plainSteps(), 300);
        is("check()", house.check(), 1);
        cutOff += model.run(model.plainSteps(), 300).ended && !model.run(model.code(), 300).ended ? 1 : 0;
        // check leaves the latest run
        compareLatest(model.run(model.plainSteps(), 300));
        compareRun(1, model.code(), any(2) == 0 ? 2000 : any(60));
        compareRun(2, model.tidied(), any(2) == 0 ? 2000 : any(60));
    }

    private void compareItems(int which, List<Model.Item> items) {
        is("count(" + (which + 1) + ")", house.count(which + 1), items.size());
        for (int i = 0; i < items.size(); i++) {
            for (int what = 0; what < 4; what++) {
                is("item(" + which + ", " + i + ", " + what + ")",
                    house.item(which, i, what), Model.part(items, i, what));
            }
        }
    }

    private void compareRun(int which, List<Model.Item> items, int granted) {
        Model.Outcome due = model.run(items, granted);
        is("run(" + which + ", " + granted + ")", house.run(which, granted), due.ended ? 0 : 1);
        compareLatest(due);
    }

    private void compareLatest(Model.Outcome due) {
        is("made(0)", house.made(0), due.made);
        is("made(1)", house.made(1), due.said.size());
        for (int k = 0; k < 52; k++) {
            is("said(" + k + ")", house.said(k), k < 50 && k < due.said.size() ? due.said.get(k) : 0);
        }
        for (int k = 0; k < 64; k++) {
            is("cell(" + k + ")", house.cell(k), due.cells[k]);
        }
    }
}
