import java.util.function.Supplier;
import java.util.function.ToIntFunction;

/** Two objects that were told the same: a refused call on one must leave it like the other. */
final class Twins {
    private final Due due;
    private final Supplier<RegisterHouse> told;

    Twins(Due due, Supplier<RegisterHouse> told) {
        this.due = due;
        this.told = told;
    }

    /** The call answers this, and every answer after it is as if it had not been made. */
    void refuses(String call, ToIntFunction<RegisterHouse> refused, int answer) {
        RegisterHouse called = told.get();
        RegisterHouse left = told.get();
        due.is(call, refused.applyAsInt(called), answer);
        same("behind " + call, called, left);
    }

    private void same(String what, RegisterHouse got, RegisterHouse want) {
        sameLatest(what, got, want);
        each(what + ": count", 6, got::count, want::count);
        each(what + ": live", want.count(1), got::live, want::live);
        each(what + ": inWay", want.count(0), got::inWay, want::inWay);
        each(what + ": weight", want.count(0), got::weight, want::weight);
        each(what + ": home", want.count(0), got::home, want::home);
        each(what + ": order", want.count(0), got::order, want::order);
        for (int which = 1; which <= 2; which++) {
            sameItems(what, which, got, want);
        }
        due.is(what + ": check()", got.check(), want.check());
        for (int which = 0; which < 3; which++) {
            String run = what + ": run " + which;
            due.is(run, got.run(which, 90), want.run(which, 90));
            sameLatest(run, got, want);
        }
    }

    /** A few items will do: an object is used for 512 calls at most. */
    private void sameItems(String what, int which, RegisterHouse got, RegisterHouse want) {
        for (int part = 0; part < 4; part++) {
            int asked = part;
            each(what + ": part " + part + " of item of " + which, Math.min(8, want.count(which + 1)),
                i -> got.item(which, i, asked), i -> want.item(which, i, asked));
        }
    }

    private void sameLatest(String what, RegisterHouse got, RegisterHouse want) {
        each(what + ": made", 2, got::made, want::made);
        each(what + ": said", 3, got::said, want::said);
        for (int k : new int[] {0, 1, 5, 62, 63}) {
            due.is(what + ": cell(" + k + ")", got.cell(k), want.cell(k));
        }
    }

    private interface Asked {
        int of(int k);
    }

    private void each(String what, int many, Asked got, Asked want) {
        for (int k = 0; k < many; k++) {
            due.is(what + "(" + k + ")", got.of(k), want.of(k));
        }
    }
}
