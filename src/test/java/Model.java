import java.util.ArrayList;
import java.util.HashMap;
import java.util.List;
import java.util.Map;
import java.util.Set;
import java.util.TreeSet;

/** The document's terms written down once more, with sets and links in place of bits and numbers. */
final class Model {
    /** A step, or an item; items lead to each other by link, and to the end by null. */
    static final class Item {
        final int op;
        final int[] parts;
        final boolean leads;
        Item to;
        int step;

        Item(int op, int x, int y, int z) {
            this.op = op;
            this.parts = new int[] {x, y, z};
            this.leads = op == 7 || op == 8;
        }
    }

    static final class Outcome {
        boolean ended;
        int made;
        final List<Integer> said = new ArrayList<>();
        final int[] cells = new int[64];
    }

    final List<Integer> classes = new ArrayList<>();
    final List<int[]> steps = new ArrayList<>();
    final int[] registers = new int[2];
    final int[] memory = new int[64];

    static int[] taken(int[] s) {
        switch (s[0]) {
            case 1: case 5: return new int[] {s[2]};
            case 2: case 3: case 4: return new int[] {s[2], s[3]};
            case 6: case 7: return new int[] {s[1], s[2]};
            case 9: return new int[] {s[1]};
            default: return new int[0];
        }
    }

    static boolean makes(int[] s) {
        return s[0] < 6;
    }

    List<Integer> following(int i) {
        int[] s = steps.get(i);
        List<Integer> all = new ArrayList<>();
        if (s[0] != 8 && s[0] != 10) {
            all.add(i + 1);
        }
        if (s[0] == 7) {
            all.add(s[3]);
        }
        if (s[0] == 8) {
            all.add(s[1]);
        }
        all.removeIf(next -> next >= steps.size());
        return all;
    }

    /** A value is live before a step if some way on from there takes it before it becomes anew. */
    boolean isLive(int value, int from) {
        Set<Integer> seen = new TreeSet<>();
        List<Integer> open = new ArrayList<>(List.of(from));
        while (!open.isEmpty()) {
            int i = open.remove(open.size() - 1);
            if (!seen.add(i)) {
                continue;
            }
            int[] s = steps.get(i);
            for (int v : taken(s)) {
                if (v == value) {
                    return true;
                }
            }
            if (!(makes(s) && s[1] == value)) {
                open.addAll(following(i));
            }
        }
        return false;
    }

    Set<Integer> live(int i) {
        Set<Integer> all = new TreeSet<>();
        for (int v = 0; v < classes.size(); v++) {
            if (isLive(v, i)) {
                all.add(v);
            }
        }
        return all;
    }

    List<Set<Integer>> inWay() {
        List<Set<Integer>> all = new ArrayList<>();
        for (int v = 0; v < classes.size(); v++) {
            all.add(new TreeSet<>());
        }
        for (int i = 0; i < steps.size(); i++) {
            int[] s = steps.get(i);
            if (!makes(s)) {
                continue;
            }
            for (int next : following(i)) {
                for (int other : live(next)) {
                    boolean own = s[0] == 1 && other == s[2];
                    if (other != s[1] && !own && classes.get(other).equals(classes.get(s[1]))) {
                        all.get(other).add(s[1]);
                        all.get(s[1]).add(other);
                    }
                }
            }
        }
        return all;
    }

    int weight(int value) {
        int weight = 0;
        for (int[] s : steps) {
            if (makes(s) && s[1] == value) {
                weight++;
            }
            for (int v : taken(s)) {
                weight += v == value ? 1 : 0;
            }
        }
        return weight;
    }

    List<Integer> order() {
        List<Integer> all = new ArrayList<>();
        for (int v = 0; v < classes.size(); v++) {
            all.add(v);
        }
        all.sort((v, w) -> weight(v) != weight(w) ? weight(w) - weight(v) : v - w);
        return all;
    }

    Map<Integer, Integer> homes() {
        List<Set<Integer>> ways = inWay();
        Map<Integer, Integer> homes = new HashMap<>();
        for (int v : order()) {
            Set<Integer> closed = new TreeSet<>();
            for (int w : ways.get(v)) {
                if (homes.containsKey(w)) {
                    closed.add(homes.get(w));
                }
            }
            Set<Integer> liked = new TreeSet<>();
            for (int[] s : steps) {
                if (s[0] == 1 && (s[1] == v || s[2] == v)) {
                    int other = s[1] == v ? s[2] : s[1];
                    if (homes.containsKey(other) && classes.get(other).equals(classes.get(v))) {
                        liked.add(homes.get(other));
                    }
                }
            }
            homes.put(v, pick(registers[classes.get(v)], closed, liked));
        }
        return homes;
    }

    private static int pick(int many, Set<Integer> closed, Set<Integer> liked) {
        for (int r = 0; r < many; r++) {
            if (liked.contains(r) && !closed.contains(r)) {
                return r;
            }
        }
        for (int r = 0; r < many; r++) {
            if (!closed.contains(r)) {
                return r;
            }
        }
        int slot = 100;
        while (closed.contains(slot)) {
            slot++;
        }
        return slot;
    }

    int slots(int c) {
        Set<Integer> all = new TreeSet<>();
        homes().forEach((v, home) -> {
            if (classes.get(v) == c && home >= 100) {
                all.add(home);
            }
        });
        return all.size();
    }

    List<Item> code() {
        Map<Integer, Integer> homes = homes();
        List<Item> items = new ArrayList<>();
        for (int i = 0; i < steps.size(); i++) {
            for (Item item : itemsOf(steps.get(i), homes)) {
                item.step = i;
                items.add(item);
            }
        }
        for (Item item : items) {
            if (item.leads) {
                int step = steps.get(item.step)[item.op == 7 ? 3 : 1];
                item.to = items.stream().filter(other -> other.step >= step).findFirst().orElse(null);
            }
        }
        return items;
    }

    private List<Item> itemsOf(int[] s, Map<Integer, Integer> homes) {
        List<Item> items = new ArrayList<>();
        if (s[0] == 1 && classes.get(s[1]).equals(classes.get(s[2])) && homes.get(s[1]).equals(homes.get(s[2]))) {
            return items;
        }
        Map<Integer, Integer> at = new HashMap<>();
        int[] fetched = new int[2];
        for (int v : taken(s)) {
            int base = 16 * classes.get(v);
            if (homes.get(v) < 100) {
                at.put(v, base + homes.get(v));
            } else if (!at.containsKey(v)) {
                at.put(v, base + 8 + fetched[classes.get(v)]++);
                items.add(new Item(11, at.get(v), homes.get(v) - 100, 0));
            }
        }
        int anew = 0;
        if (makes(s)) {
            int base = 16 * classes.get(s[1]);
            anew = base + (homes.get(s[1]) < 100 ? homes.get(s[1]) : 8);
        }
        switch (s[0]) {
            case 0: items.add(new Item(0, anew, s[2], 0)); break;
            case 1: items.add(new Item(1, anew, at.get(s[2]), 0)); break;
            case 2: case 3: case 4: items.add(new Item(s[0], anew, at.get(s[2]), at.get(s[3]))); break;
            case 5: items.add(new Item(5, anew, at.get(s[2]), s[3])); break;
            case 6: items.add(new Item(6, at.get(s[1]), at.get(s[2]), s[3])); break;
            case 7: items.add(new Item(7, at.get(s[1]), at.get(s[2]), 0)); break;
            case 9: items.add(new Item(9, at.get(s[1]), 0, 0)); break;
            default: items.add(new Item(s[0], 0, 0, 0)); break;
        }
        if (makes(s) && homes.get(s[1]) >= 100) {
            items.add(new Item(12, anew, homes.get(s[1]) - 100, 0));
        }
        return items;
    }

    List<Item> tidied() {
        List<Item> items = code();
        int i = 0;
        while (i < items.size()) {
            if (!isNeedless(items, i)) {
                i++;
                continue;
            }
            Item gone = items.remove(i);
            Item behind = i < items.size() ? items.get(i) : null;
            for (Item item : items) {
                if (item.leads && item.to == gone) {
                    item.to = behind;
                }
            }
            i = 0;
        }
        return items;
    }

    private static boolean isNeedless(List<Item> items, int i) {
        Item item = items.get(i);
        Item next = i + 1 < items.size() ? items.get(i + 1) : null;
        if (item.op == 8 && item.to == next) {
            return true;
        }
        if (i == 0 || items.stream().anyMatch(other -> other.leads && other.to == item)) {
            return false;
        }
        Item last = items.get(i - 1);
        return last.op == 8 || last.op == 10
            || last.op == 12 && item.op == 11 && last.parts[0] == item.parts[0] && last.parts[1] == item.parts[1];
    }

    /** Op, x, y or z of an item, with its link told as a number. */
    static int part(List<Item> items, int i, int what) {
        Item item = items.get(i);
        if (what == 0) {
            return item.op;
        }
        if (item.leads && what == (item.op == 7 ? 3 : 1)) {
            return item.to == null ? items.size() : items.indexOf(item.to);
        }
        return item.parts[what - 1];
    }

    /** The steps as items that use the values' own numbers as registers. */
    List<Item> plainSteps() {
        List<Item> items = new ArrayList<>();
        for (int[] s : steps) {
            items.add(new Item(s[0], s[1], s[2], s[3]));
        }
        for (Item item : items) {
            int step = item.leads ? item.parts[item.op == 7 ? 2 : 0] : items.size();
            item.to = step < items.size() ? items.get(step) : null;
        }
        return items;
    }

    Outcome run(List<Item> items, int granted) {
        Outcome o = new Outcome();
        Map<Integer, Integer> registers = new HashMap<>();
        Map<Integer, Integer> slots = new HashMap<>();
        System.arraycopy(memory, 0, o.cells, 0, 64);
        int at = 0;
        while (at < items.size()) {
            if (o.made == granted) {
                return o;
            }
            o.made++;
            Item item = items.get(at);
            if (item.op == 10) {
                break;
            }
            at = jumps(item, registers) ? (item.to == null ? items.size() : items.indexOf(item.to)) : at + 1;
            act(item.op, item.parts, registers, slots, o);
        }
        o.ended = true;
        return o;
    }

    private static boolean jumps(Item item, Map<Integer, Integer> registers) {
        return item.op == 8
            || item.op == 7 && get(registers, item.parts[0]) < get(registers, item.parts[1]);
    }

    private static int get(Map<Integer, Integer> from, int key) {
        return from.getOrDefault(key, 0);
    }

    private static void act(int op, int[] p, Map<Integer, Integer> r, Map<Integer, Integer> slots, Outcome o) {
        switch (op) {
            case 0: r.put(p[0], p[1]); break;
            case 1: r.put(p[0], get(r, p[1])); break;
            case 2: r.put(p[0], get(r, p[1]) + get(r, p[2])); break;
            case 3: r.put(p[0], get(r, p[1]) - get(r, p[2])); break;
            case 4: r.put(p[0], get(r, p[1]) * get(r, p[2])); break;
            case 5: r.put(p[0], o.cells[get(r, p[1]) + p[2] & 63]); break;
            case 6: o.cells[get(r, p[1]) + p[2] & 63] = get(r, p[0]); break;
            case 9: o.said.add(get(r, p[0])); break;
            case 11: r.put(p[0], get(slots, p[0] / 16 * 1000 + p[1])); break;
            case 12: slots.put(p[0] / 16 * 1000 + p[1], get(r, p[0])); break;
            default: break;
        }
    }
}
