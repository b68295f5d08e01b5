/**
 * A small program of values of two classes, put into registers and slots.
 *
 * All rows are made in constructors and used again: no call makes an object.
 */
public final class RegisterHouse {
    public static final int NONE = -1;

    private static final int CLASSES = 2;
    private static final int MOST_VALUES = 24;
    private static final int MOST_STEPS = 60;
    private static final int MOST_REGISTERS = 8;
    /** A step makes at most two FETCHes, itself and one KEEP. */
    private static final int MOST_ITEMS = 4 * MOST_STEPS;
    private static final int CELLS = 64;
    private static final int SAID_KEPT = 50;
    private static final int MOST_GRANTED = 2000;
    private static final int GRANTED_TO_CHECK = 300;

    private static final int NUMBER = 0;
    private static final int MOVE = 1;
    private static final int SUM = 2;
    private static final int DIFFERENCE = 3;
    private static final int PRODUCT = 4;
    private static final int LOAD = 5;
    private static final int STORE = 6;
    private static final int LESS = 7;
    private static final int GO = 8;
    private static final int SAY = 9;
    private static final int END = 10;
    private static final int FETCH = 11;
    private static final int KEEP = 12;

    /** By op: which of a (1), b (2), c (4) are values that the step takes. */
    private static final int[] TAKEN = {0, 2, 6, 6, 6, 2, 3, 3, 0, 1, 0};
    /** By op: which of a (1), b (2), c (4) are values at all. */
    private static final int[] NAMED = {1, 3, 7, 7, 7, 3, 3, 3, 0, 1, 0};

    /** Homes from this number on are slots. */
    private static final int SLOT = 100;
    /** What is added to the number of a register of class 1. */
    private static final int CLASS_STRIDE = 16;
    private static final int WORKING = 8;
    private static final int SECOND_WORKING = 9;

    private static final int NOTHING_READY = 0;
    private static final int FLOW_READY = 1;
    private static final int HOMES_READY = 2;
    private static final int CODE_READY = 3;
    private static final int TIDIED_READY = 4;

    private final Program program;
    private final Flow flow;
    private final Homes homes;
    private final Coder coder;
    private final Tidier tidier;
    private final Listing code;
    private final Listing tidied;
    private final int[] toldMemory;
    private final Machine latest;
    private final Machine stepsTrial;
    private final Machine codeTrial;
    /** How far what follows from the program is worked out, since it changed last. */
    private int ready;

    public RegisterHouse() {
        program = new Program();
        flow = new Flow();
        homes = new Homes();
        coder = new Coder();
        tidier = new Tidier();
        code = new Listing(MOST_ITEMS);
        tidied = new Listing(MOST_ITEMS);
        toldMemory = new int[CELLS];
        latest = new Machine();
        stepsTrial = new Machine();
        codeTrial = new Machine();
        ready = NOTHING_READY;
    }

    public int value(int c) {
        if (!isClass(c) || program.values >= MOST_VALUES) {
            return NONE;
        }
        ready = NOTHING_READY;
        return program.addValue(c);
    }

    public int put(int op, int a, int b, int c) {
        if (program.steps.size >= MOST_STEPS || !program.allows(op, a, b, c)) {
            return NONE;
        }
        ready = NOTHING_READY;
        return program.addStep(op, a, b, c);
    }

    public int clear() {
        int there = program.steps.size;
        program.steps.size = 0;
        ready = NOTHING_READY;
        return there;
    }

    public int registers(int c, int many) {
        if (!isClass(c) || many < 0 || many > MOST_REGISTERS) {
            return 0;
        }
        homes.registers[c] = many;
        ready = NOTHING_READY;
        return 1;
    }

    public int memory(int cell, int v) {
        if (!isCell(cell)) {
            return 0;
        }
        toldMemory[cell] = v;
        return 1;
    }

    public int live(int step) {
        if (step < 0 || step >= program.steps.size) {
            return NONE;
        }
        workOut(FLOW_READY);
        return flow.before[step];
    }

    public int inWay(int value) {
        if (!program.isValue(value)) {
            return NONE;
        }
        workOut(FLOW_READY);
        return flow.ways[value];
    }

    public int weight(int value) {
        if (!program.isValue(value)) {
            return NONE;
        }
        workOut(HOMES_READY);
        return homes.weights[value];
    }

    public int home(int value) {
        if (!program.isValue(value)) {
            return NONE;
        }
        workOut(HOMES_READY);
        return homes.places[value];
    }

    public int order(int i) {
        // there are as many places in the order as values
        if (!program.isValue(i)) {
            return NONE;
        }
        workOut(HOMES_READY);
        return homes.turns[i];
    }

    public int count(int what) {
        switch (what) {
            case 0:
                return program.values;
            case 1:
                return program.steps.size;
            case 2:
                workOut(CODE_READY);
                return code.size;
            case 3:
                workOut(TIDIED_READY);
                return tidied.size;
            case 4:
            case 5:
                workOut(HOMES_READY);
                return homes.slotsOf(what - 4, program);
            default:
                return NONE;
        }
    }

    public int item(int which, int i, int what) {
        if (which != 1 && which != 2) {
            return NONE;
        }
        workOut(stageOf(which));
        Listing listing = listingOf(which);
        if (i < 0 || i >= listing.size) {
            return NONE;
        }
        return listing.part(i, what);
    }

    public int run(int which, int steps) {
        if (which < 0 || which > 2 || steps < 0 || steps > MOST_GRANTED) {
            return NONE;
        }
        workOut(stageOf(which));
        return latest.endsWithin(steps, listingOf(which), toldMemory) ? 0 : 1;
    }

    public int made(int what) {
        switch (what) {
            case 0:
                return latest.lines;
            case 1:
                return latest.words;
            default:
                return NONE;
        }
    }

    public int said(int k) {
        if (k < 0 || k >= latest.wordsKept()) {
            return 0;
        }
        return latest.speech[k];
    }

    public int cell(int k) {
        return isCell(k) ? latest.cells[k] : 0;
    }

    public int check() {
        workOut(CODE_READY);
        if (homes.clash(program.values, flow.ways)) {
            return 0;
        }
        // the code may be longer than the steps: one that is cut off is not held against them
        boolean bothEnd = stepsTrial.endsWithin(GRANTED_TO_CHECK, program.steps, toldMemory)
            && codeTrial.endsWithin(GRANTED_TO_CHECK, code, toldMemory);
        return !bothEnd || codeTrial.agreesWith(stepsTrial) ? 1 : 0;
    }

    private static boolean isClass(int c) {
        return c >= 0 && c < CLASSES;
    }

    private static boolean isCell(int k) {
        return k >= 0 && k < CELLS;
    }

    /** What must be worked out before the steps (0), the code (1) or the tidied code (2) can be read. */
    private static int stageOf(int which) {
        switch (which) {
            case 1:
                return CODE_READY;
            case 2:
                return TIDIED_READY;
            default:
                return NOTHING_READY;
        }
    }

    private Listing listingOf(int which) {
        switch (which) {
            case 1:
                return code;
            case 2:
                return tidied;
            default:
                return program.steps;
        }
    }

    private void workOut(int wanted) {
        if (ready < FLOW_READY && wanted >= FLOW_READY) {
            flow.spread(program);
            flow.collide(program);
        }
        if (ready < HOMES_READY && wanted >= HOMES_READY) {
            homes.settle(program, flow.ways);
        }
        if (ready < CODE_READY && wanted >= CODE_READY) {
            coder.translate(program, homes, code);
        }
        if (ready < TIDIED_READY && wanted >= TIDIED_READY) {
            tidied.copy(code);
            tidier.tidy(tidied);
        }
        ready = Math.max(ready, wanted);
    }

    private static int bit(int k) {
        return 1 << k;
    }

    private static int bitIfThere(int k) {
        return k == NONE ? 0 : bit(k);
    }

    private static boolean has(int bits, int k) {
        return (bits >> k & 1) != 0;
    }

    /** The least bit that is set; 32 when none is. */
    private static int leastOf(int bits) {
        int k = 0;
        while (k < 32 && !has(bits, k)) {
            k++;
        }
        return k;
    }

    /** Steps or items: of one form, so that one machine runs both. */
    private static final class Listing {
        final int[] ops;
        final int[] xs;
        final int[] ys;
        final int[] zs;
        int size;

        Listing(int most) {
            ops = new int[most];
            xs = new int[most];
            ys = new int[most];
            zs = new int[most];
            size = 0;
        }

        void add(int op, int x, int y, int z) {
            if (size >= ops.length) {
                return;
            }
            ops[size] = op;
            xs[size] = x;
            ys[size] = y;
            zs[size] = z;
            size++;
        }

        int part(int i, int what) {
            switch (what) {
                case 0:
                    return ops[i];
                case 1:
                    return xs[i];
                case 2:
                    return ys[i];
                case 3:
                    return zs[i];
                default:
                    return NONE;
            }
        }

        /** Where line i may lead, besides the next line; NONE when nowhere. */
        int target(int i) {
            if (ops[i] == LESS) {
                return zs[i];
            }
            return ops[i] == GO ? xs[i] : NONE;
        }

        void aim(int i, int target) {
            if (ops[i] == LESS) {
                zs[i] = target;
            } else if (ops[i] == GO) {
                xs[i] = target;
            }
        }

        boolean goesOn(int i) {
            return ops[i] != GO && ops[i] != END;
        }

        void copy(Listing other) {
            size = 0;
            for (int i = 0; i < other.size; i++) {
                add(other.ops[i], other.xs[i], other.ys[i], other.zs[i]);
            }
        }

        void takeAway(int gone) {
            size--;
            for (int i = gone; i < size; i++) {
                ops[i] = ops[i + 1];
                xs[i] = xs[i + 1];
                ys[i] = ys[i + 1];
                zs[i] = zs[i + 1];
            }
            for (int i = 0; i < size; i++) {
                if (target(i) > gone) {
                    aim(i, target(i) - 1);
                }
            }
        }
    }

    /** The values and the steps, as they are told. */
    private static final class Program {
        final int[] classes = new int[MOST_VALUES];
        final int[] membersOf = new int[CLASSES];
        final Listing steps = new Listing(MOST_STEPS);
        /** By step: the value that becomes anew, and the first and second that are taken; NONE where none is. */
        final int[] anew = new int[MOST_STEPS];
        final int[] first = new int[MOST_STEPS];
        final int[] second = new int[MOST_STEPS];
        int values = 0;

        int addValue(int c) {
            classes[values] = c;
            membersOf[c] |= bit(values);
            values++;
            return values - 1;
        }

        boolean isValue(int v) {
            return v >= 0 && v < values;
        }

        boolean allows(int op, int a, int b, int c) {
            if (op < NUMBER || op > END || !namesValues(NAMED[op], a, b, c)) {
                return false;
            }
            switch (op) {
                case PRODUCT:
                    return classes[a] == 0 && classes[b] == 0 && classes[c] == 0;
                case LOAD:
                case STORE:
                    return classes[b] == 1 && isCell(c);
                case LESS:
                    return mayComeNext(c);
                case GO:
                    return mayComeNext(a);
                default:
                    return true;
            }
        }

        private boolean namesValues(int named, int a, int b, int c) {
            return (!has(named, 0) || isValue(a))
                && (!has(named, 1) || isValue(b))
                && (!has(named, 2) || isValue(c));
        }

        private static boolean mayComeNext(int step) {
            return step >= 0 && step <= MOST_STEPS;
        }

        int addStep(int op, int a, int b, int c) {
            int step = steps.size;
            steps.add(op, a, b, c);
            anew[step] = op <= LOAD ? a : NONE;
            first[step] = takenOf(step, 0);
            second[step] = takenOf(step, 1);
            return step;
        }

        private int takenOf(int step, int skipped) {
            int taken = TAKEN[steps.ops[step]];
            int seen = 0;
            for (int place = 0; place < 3; place++) {
                if (has(taken, place)) {
                    if (seen == skipped) {
                        return steps.part(step, place + 1);
                    }
                    seen++;
                }
            }
            return NONE;
        }
    }

    /** What is live before each step, and which values are in each other's way. */
    private static final class Flow {
        final int[] before = new int[MOST_STEPS];
        final int[] ways = new int[MOST_VALUES];

        void spread(Program program) {
            int steps = program.steps.size;
            for (int step = 0; step < steps; step++) {
                before[step] = 0;
            }
            boolean grew = true;
            // each pass but the last adds at least one value before one step
            for (int pass = 0; grew && pass <= MOST_STEPS * MOST_VALUES; pass++) {
                grew = false;
                for (int step = steps - 1; step >= 0; step--) {
                    int now = liveBefore(program, step);
                    grew = grew || now != before[step];
                    before[step] = now;
                }
            }
        }

        private int liveBefore(Program program, int step) {
            int kept = behind(program.steps, step) & ~bitIfThere(program.anew[step]);
            return kept | bitIfThere(program.first[step]) | bitIfThere(program.second[step]);
        }

        private int behind(Listing steps, int step) {
            int bits = beforeIfThere(steps, steps.target(step));
            if (steps.goesOn(step)) {
                bits |= beforeIfThere(steps, step + 1);
            }
            return bits;
        }

        private int beforeIfThere(Listing steps, int step) {
            return step >= 0 && step < steps.size ? before[step] : 0;
        }

        void collide(Program program) {
            for (int v = 0; v < program.values; v++) {
                ways[v] = 0;
            }
            for (int step = 0; step < program.steps.size; step++) {
                int anew = program.anew[step];
                if (anew != NONE) {
                    blockAll(anew, blockedIn(program, step, anew));
                }
            }
        }

        private int blockedIn(Program program, int step, int anew) {
            int others = behind(program.steps, step) & program.membersOf[program.classes[anew]];
            if (program.steps.ops[step] == MOVE) {
                others &= ~bit(program.steps.ys[step]);
            }
            return others & ~bit(anew);
        }

        private void blockAll(int value, int others) {
            ways[value] |= others;
            for (int v = 0; v < MOST_VALUES; v++) {
                if (has(others, v)) {
                    ways[v] |= bit(value);
                }
            }
        }
    }

    /** Weights, the order that follows from them, and where each value gets its home. */
    private static final class Homes {
        final int[] registers = new int[CLASSES];
        final int[] weights = new int[MOST_VALUES];
        final int[] turns = new int[MOST_VALUES];
        final int[] joined = new int[MOST_VALUES];
        final int[] places = new int[MOST_VALUES];

        void settle(Program program, int[] ways) {
            forget(program.values);
            for (int step = 0; step < program.steps.size; step++) {
                weigh(program.steps, step);
                join(program, step);
            }
            line(program.values);
            for (int i = 0; i < program.values; i++) {
                int v = turns[i];
                places[v] = placeFor(v, registers[program.classes[v]], ways[v]);
            }
        }

        private void forget(int values) {
            for (int v = 0; v < values; v++) {
                weights[v] = 0;
                joined[v] = 0;
                places[v] = NONE;
            }
        }

        private void weigh(Listing steps, int step) {
            int named = NAMED[steps.ops[step]];
            for (int place = 0; place < 3; place++) {
                if (has(named, place)) {
                    weights[steps.part(step, place + 1)]++;
                }
            }
        }

        private void join(Program program, int step) {
            int a = program.steps.xs[step];
            int b = program.steps.ys[step];
            if (program.steps.ops[step] == MOVE && program.classes[a] == program.classes[b]) {
                joined[a] |= bit(b);
                joined[b] |= bit(a);
            }
        }

        private void line(int values) {
            for (int v = 0; v < values; v++) {
                int i = v;
                // those of the same weight stay before v: their numbers are lesser
                while (i > 0 && weights[turns[i - 1]] < weights[v]) {
                    turns[i] = turns[i - 1];
                    i--;
                }
                turns[i] = v;
            }
        }

        private int placeFor(int v, int many, int inItsWay) {
            int free = (bit(many) - 1) & ~placesOf(inItsWay, 0);
            int shared = free & placesOf(joined[v], 0);
            if (shared != 0) {
                return leastOf(shared);
            }
            if (free != 0) {
                return leastOf(free);
            }
            return SLOT + leastOf(~placesOf(inItsWay, SLOT));
        }

        /** Bits of the registers (from 0) or the slots (from SLOT) that some values have as homes. */
        private int placesOf(int some, int from) {
            int bits = 0;
            for (int v = 0; v < MOST_VALUES; v++) {
                if (has(some, v) && places[v] != NONE && inSlot(v) == (from == SLOT)) {
                    bits |= bit(places[v] - from);
                }
            }
            return bits;
        }

        boolean inSlot(int v) {
            return places[v] >= SLOT;
        }

        int slotsOf(int c, Program program) {
            return Integer.bitCount(placesOf(program.membersOf[c], SLOT));
        }

        boolean clash(int values, int[] ways) {
            for (int v = 0; v < values; v++) {
                for (int w = 0; w < v; w++) {
                    if (has(ways[v], w) && places[v] == places[w]) {
                        return true;
                    }
                }
            }
            return false;
        }
    }

    /** Makes the code of the steps and the homes. */
    private static final class Coder {
        /** By step, and for the end behind all of them: the first item from there on. */
        private final int[] starts = new int[MOST_STEPS + 1];

        void translate(Program program, Homes homes, Listing code) {
            code.size = 0;
            for (int step = 0; step < program.steps.size; step++) {
                starts[step] = code.size;
                if (!isNeedless(program, homes, step)) {
                    translateStep(program, homes, code, step);
                }
            }
            for (int step = program.steps.size; step <= MOST_STEPS; step++) {
                starts[step] = code.size;
            }
            for (int i = 0; i < code.size; i++) {
                if (code.target(i) != NONE) {
                    code.aim(i, starts[code.target(i)]);
                }
            }
        }

        private static boolean isNeedless(Program program, Homes homes, int step) {
            int a = program.steps.xs[step];
            int b = program.steps.ys[step];
            return program.steps.ops[step] == MOVE
                && homes.places[a] == homes.places[b]
                && program.classes[a] == program.classes[b];
        }

        private static void translateStep(Program program, Homes homes, Listing code, int step) {
            int first = program.first[step];
            int second = program.second[step];
            int firstAt = bring(program, homes, code, first, WORKING);
            int secondAt = firstAt;
            if (second != first) {
                boolean occupied = firstHolds8(program, homes, first, second);
                secondAt = bring(program, homes, code, second, occupied ? SECOND_WORKING : WORKING);
            }
            int anew = program.anew[step];
            if (anew == NONE) {
                addUser(program.steps, code, step, firstAt, secondAt);
                return;
            }
            int anewAt = registerOf(program, homes, anew, WORKING);
            addMaker(program.steps, code, step, anewAt, firstAt, secondAt);
            if (homes.inSlot(anew)) {
                code.add(KEEP, anewAt, homes.places[anew] - SLOT, 0);
            }
        }

        /** Fetches a value that has a slot; the register where it is then. */
        private static int bring(Program program, Homes homes, Listing code, int v, int working) {
            if (v == NONE) {
                return NONE;
            }
            int register = registerOf(program, homes, v, working);
            if (homes.inSlot(v)) {
                code.add(FETCH, register, homes.places[v] - SLOT, 0);
            }
            return register;
        }

        /** Whether the first value stands where the second, another one, would be fetched to. */
        private static boolean firstHolds8(Program program, Homes homes, int first, int second) {
            return second != NONE && homes.inSlot(first)
                && program.classes[first] == program.classes[second];
        }

        /** The register where a value is worked on, told with its class. */
        private static int registerOf(Program program, Homes homes, int v, int working) {
            int register = homes.inSlot(v) ? working : homes.places[v];
            return CLASS_STRIDE * program.classes[v] + register;
        }

        private static void addMaker(Listing steps, Listing code, int step, int anew, int first, int second) {
            int op = steps.ops[step];
            switch (op) {
                case NUMBER:
                    code.add(op, anew, steps.ys[step], 0);
                    break;
                case MOVE:
                    code.add(op, anew, first, 0);
                    break;
                case LOAD:
                    code.add(op, anew, first, steps.zs[step]);
                    break;
                default:
                    code.add(op, anew, first, second);
                    break;
            }
        }

        /** Steps to come next are told as they are: translate aims them when all starts are known. */
        private static void addUser(Listing steps, Listing code, int step, int first, int second) {
            int op = steps.ops[step];
            switch (op) {
                case STORE:
                case LESS:
                    code.add(op, first, second, steps.zs[step]);
                    break;
                case GO:
                    code.add(op, steps.xs[step], 0, 0);
                    break;
                case SAY:
                    code.add(op, first, 0, 0);
                    break;
                default:
                    code.add(op, 0, 0, 0);
                    break;
            }
        }
    }

    /** Takes needless items away, the first one each time. */
    private static final class Tidier {
        /** By item, and for the end behind all of them: whether one leads there. */
        private final boolean[] led = new boolean[MOST_ITEMS + 1];

        void tidy(Listing items) {
            int gone = firstNeedless(items);
            for (int round = 0; gone != NONE && round < MOST_ITEMS; round++) {
                items.takeAway(gone);
                gone = firstNeedless(items);
            }
        }

        private int firstNeedless(Listing items) {
            markLed(items);
            for (int i = 0; i < items.size; i++) {
                if (leadsToNext(items, i) || i > 0 && !led[i] && isIdleBehind(items, i)) {
                    return i;
                }
            }
            return NONE;
        }

        private void markLed(Listing items) {
            for (int i = 0; i <= items.size; i++) {
                led[i] = false;
            }
            for (int i = 0; i < items.size; i++) {
                if (items.target(i) != NONE) {
                    led[items.target(i)] = true;
                }
            }
        }

        /** The end counts as what is next to the last item: op 8 is as needless there. */
        private static boolean leadsToNext(Listing items, int i) {
            return items.ops[i] == GO && items.xs[i] == i + 1;
        }

        private static boolean isIdleBehind(Listing items, int i) {
            return !items.goesOn(i - 1) || fetchesWhatWasKept(items, i);
        }

        private static boolean fetchesWhatWasKept(Listing items, int i) {
            return items.ops[i] == FETCH && items.ops[i - 1] == KEEP
                && items.xs[i] == items.xs[i - 1] && items.ys[i] == items.ys[i - 1];
        }
    }

    /** Runs a listing. For the steps, the values themselves are the registers. */
    private static final class Machine {
        final int[] registers = new int[CLASS_STRIDE * CLASSES];
        final int[] slots = new int[MOST_VALUES * CLASSES];
        final int[] cells = new int[CELLS];
        final int[] speech = new int[SAID_KEPT];
        int words = 0;
        int lines = 0;

        boolean endsWithin(int granted, Listing listing, int[] told) {
            begin(told);
            int at = 0;
            while (at < listing.size && lines < granted) {
                lines++;
                at = lineBehind(listing, at);
            }
            return at >= listing.size;
        }

        private void begin(int[] told) {
            for (int k = 0; k < registers.length; k++) {
                registers[k] = 0;
            }
            for (int k = 0; k < slots.length; k++) {
                slots[k] = 0;
            }
            for (int k = 0; k < CELLS; k++) {
                cells[k] = told[k];
            }
            words = 0;
            lines = 0;
        }

        /** Does line i: the line that comes next. */
        private int lineBehind(Listing listing, int i) {
            int x = listing.xs[i];
            switch (listing.ops[i]) {
                case LESS:
                    return registers[x] < registers[listing.ys[i]] ? listing.zs[i] : i + 1;
                case GO:
                    return x;
                case END:
                    return listing.size;
                default:
                    act(listing.ops[i], x, listing.ys[i], listing.zs[i]);
                    return i + 1;
            }
        }

        private void act(int op, int x, int y, int z) {
            switch (op) {
                case NUMBER:
                    registers[x] = y;
                    break;
                case MOVE:
                    registers[x] = registers[y];
                    break;
                case SUM:
                    registers[x] = registers[y] + registers[z];
                    break;
                case DIFFERENCE:
                    registers[x] = registers[y] - registers[z];
                    break;
                case PRODUCT:
                    registers[x] = registers[y] * registers[z];
                    break;
                case LOAD:
                    registers[x] = cells[cellAt(y, z)];
                    break;
                case STORE:
                    cells[cellAt(y, z)] = registers[x];
                    break;
                case SAY:
                    speak(registers[x]);
                    break;
                case FETCH:
                    registers[x] = slots[slotAt(x, y)];
                    break;
                case KEEP:
                    slots[slotAt(x, y)] = registers[x];
                    break;
                default:
                    break;
            }
        }

        private int cellAt(int register, int more) {
            return Math.floorMod(registers[register] + more, CELLS);
        }

        /** The register tells the class whose slot it is. */
        private static int slotAt(int register, int slot) {
            return register / CLASS_STRIDE * MOST_VALUES + slot;
        }

        private void speak(int word) {
            if (words < SAID_KEPT) {
                speech[words] = word;
            }
            words++;
        }

        int wordsKept() {
            return Math.min(words, SAID_KEPT);
        }

        boolean agreesWith(Machine other) {
            if (words != other.words) {
                return false;
            }
            for (int k = 0; k < wordsKept(); k++) {
                if (speech[k] != other.speech[k]) {
                    return false;
                }
            }
            for (int k = 0; k < CELLS; k++) {
                if (cells[k] != other.cells[k]) {
                    return false;
                }
            }
            return true;
        }
    }
}
