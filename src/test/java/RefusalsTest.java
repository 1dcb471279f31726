import java.util.Arrays;

/**
 * Every refused call: each argument just outside its range and far outside, alone and together with others,
 * ahead of the state that would refuse the call; which exception comes first; and that nothing is changed by it.
 */
public final class RefusalsTest {
    private interface Maker {
        Puppetloom make();
    }

    private static final int MIN = Integer.MIN_VALUE;
    private static final int MAX = Integer.MAX_VALUE;

    public static void main(String[] args) {
        acceptedCalls();
        refusedByState();
        refusedByWear();
        refusedWithoutAny();
        snapshotTellsAll();
        Check.end("RefusalsTest");
    }

    /** Three puppets and three shows: the first show performed, the second one has puppets 0 and 2, the third one 0. */
    private static Puppetloom small() {
        Puppetloom loom = new Puppetloom();
        loom.puppet(100, 50);
        loom.puppet(105, 1500);
        loom.puppet(110, 90);
        loom.key(0, 0, 100, 30, 0);
        loom.key(0, 999, 900, 60, 1);
        loom.key(1, 0, 104, 25, 2);
        loom.key(1, 20, 130, 35, 3);
        loom.key(1, 40, 90, 35, 0);
        loom.key(2, 0, 110, 5, 1);
        loom.hear(3, 5);
        loom.hear(9, 0);
        loom.cue(2, 3);
        loom.show(100, 10);
        loom.show(200, 10);
        loom.show(300, 10);
        loom.cast(0, 0);
        loom.cast(0, 1);
        loom.sell(0, 2, 9);
        loom.perform(0);
        loom.mend(1, 400);
        loom.cast(1, 0);
        loom.cast(1, 2);
        loom.cast(2, 0);
        loom.sell(1, 20, 7);
        loom.sell(2, 50, 1);
        return loom;
    }

    /** The small one with all puppets and shows that there can be, and with twelve keys for the last puppet. */
    private static Puppetloom full() {
        Puppetloom loom = small();
        for (int number = 3; number < 8; number++) {
            loom.puppet(100 * number, 100);
        }
        for (int frame = 0; frame < 12; frame++) {
            loom.key(7, frame, 700, frame, 0);
        }
        loom.show(205, 10);
        loom.show(402, 5);
        loom.show(600, 5);
        loom.cast(5, 1);
        loom.perform(5);
        return loom;
    }

    /** Puppet 0 has 50 worn joints, and show 5 is ahead. */
    private static Puppetloom wornOut() {
        Puppetloom loom = new Puppetloom();
        loom.puppet(100, 50);
        for (int frame = 0; frame < 10; frame++) {
            loom.key(0, frame, 100, frame, 0);
        }
        for (int show = 0; show < 6; show++) {
            loom.show(show * 10, 10);
        }
        for (int show = 0; show < 5; show++) {
            loom.cast(show, 0);
            loom.perform(show);
        }
        return loom;
    }

    /** The least and the greatest of each argument, if there are so many puppets and shows. */
    private static int[][] ranges(int call, int puppets, int shows) {
        int[] puppet = {0, puppets - 1};
        int[] show = {0, shows - 1};
        int[] frame = {0, 1999};
        switch (call) {
            case Calls.PUPPET: return new int[][] {{0, 999}, {0, 1500}};
            case Calls.SET_LENGTH: return new int[][] {puppet, {0, 1500}};
            case Calls.KEY: return new int[][] {puppet, {0, 999}, {0, 999}, {0, 999}, {0, 3}};
            case Calls.CUT_KEY: return new int[][] {puppet, {0, 999}};
            case Calls.HEAR: return new int[][] {{0, 9}, {-1, 999}};
            case Calls.CUE: return new int[][] {puppet, {-1, 9}};
            case Calls.SHOW: return new int[][] {{0, 100000}, {1, 600}};
            case Calls.CAST: case Calls.LEAVE: return new int[][] {show, puppet};
            case Calls.SELL: return new int[][] {show, {1, 50}, {0, 100}};
            case Calls.PERFORM: return new int[][] {show};
            case Calls.MEND: return new int[][] {puppet, {0, 100000}};
            case Calls.TRACK: case Calls.TRACK_BY_FRAMES: return new int[][] {puppet, frame};
            case Calls.X: case Calls.Y: return new int[][] {show, puppet, frame};
            case Calls.BENT: return new int[][] {show, puppet, frame, frame};
            case Calls.IS_BUSY: return new int[][] {puppet, {0, 200000}};
            default: return new int[][] {puppet};
        }
    }

    /** What is thrown for each argument that is outside its range. */
    private static Class<?>[] dues(int call) {
        Class<?> i = Check.INDEX;
        Class<?> a = Check.ARGUMENT;
        switch (call) {
            case Calls.PUPPET: case Calls.SHOW: return new Class<?>[] {a, a};
            case Calls.KEY: return new Class<?>[] {i, a, a, a, a};
            case Calls.CUT_KEY: return new Class<?>[] {i, Check.ELEMENT};
            case Calls.CUE: case Calls.CAST: case Calls.LEAVE: return new Class<?>[] {i, i};
            case Calls.SELL: return new Class<?>[] {i, a, a};
            case Calls.X: case Calls.Y: return new Class<?>[] {i, i, a};
            case Calls.BENT: return new Class<?>[] {i, i, a, a};
            default: return new Class<?>[] {i, a};
        }
    }

    private static Class<?> first(Class<?> one, Class<?> other) {
        return rank(one) <= rank(other) ? one : other;
    }

    private static int rank(Class<?> due) {
        return due == Check.INDEX ? 0 : due == Check.ARGUMENT ? 1 : due == null ? 3 : 2;
    }

    private static void refused(Maker maker, int call, int[] a, Class<?> due, String untouched) {
        Puppetloom loom = maker.make();
        String what = Calls.NAMES[call] + Arrays.toString(a);
        Check.refused(what, due, () -> Calls.answer(loom, call, a));
        Check.same("all behind the refused " + what, Snapshot.of(loom), untouched);
    }

    /** Calls with these arguments, and with each one of them outside its range, and with several outside. */
    private static void around(Maker maker, int puppets, int shows, Class<?> due, int call, int... base) {
        String untouched = Snapshot.of(maker.make());
        if (due != null) {
            refused(maker, call, base, due, untouched);
        }
        int[][] ranges = ranges(call, puppets, shows);
        outside(maker, call, base.clone(), 0, due, untouched, ranges);
        for (int i = 0; i < base.length; i++) {
            for (int far : new int[] {MIN, MAX}) {
                int[] a = base.clone();
                a[i] = far;
                refused(maker, call, a, first(dues(call)[i], due), untouched);
            }
        }
    }

    private static void outside(Maker maker, int call, int[] a, int i, Class<?> due, String untouched, int[][] ranges) {
        if (i == a.length) {
            return;
        }
        int inside = a[i];
        outside(maker, call, a, i + 1, due, untouched, ranges);
        for (int out : new int[] {ranges[i][0] - 1, ranges[i][1] + 1}) {
            a[i] = out;
            Class<?> first = first(dues(call)[i], due);
            refused(maker, call, a.clone(), first, untouched);
            outside(maker, call, a, i + 1, first, untouched, ranges);
        }
        a[i] = inside;
    }

    /** A call that is accepted: so it is with the least and the greatest of each argument, unless the state is against. */
    private static void accepted(int call, int... base) {
        Check.same(Calls.NAMES[call] + Arrays.toString(base) + " is accepted",
            Calls.outcome(small(), call, base).startsWith("throws"), false);
        int[][] ranges = ranges(call, 3, 3);
        for (int i = 0; i < base.length; i++) {
            for (int edge : ranges[i]) {
                int[] a = base.clone();
                a[i] = edge;
                String outcome = Calls.outcome(small(), call, a);
                Check.same(Calls.NAMES[call] + Arrays.toString(a) + " is in range, " + outcome,
                    outcome.startsWith("throws") && !outcome.equals("throws." + Check.STATE.getName()), false);
            }
        }
        around(RefusalsTest::small, 3, 3, null, call, base);
    }

    private static void acceptedCalls() {
        accepted(Calls.PUPPET, 500, 700);
        accepted(Calls.SET_LENGTH, 0, 60);
        accepted(Calls.KEY, 0, 500, 5, 6, 1);
        accepted(Calls.KEY, 0, 999, 5, 6, 1);
        accepted(Calls.CUT_KEY, 0, 0);
        accepted(Calls.HEAR, 0, 7);
        accepted(Calls.HEAR, 3, Puppetloom.NONE);
        accepted(Calls.CUE, 2, 1);
        accepted(Calls.CUE, 2, Puppetloom.NONE);
        accepted(Calls.SHOW, 1000, 10);
        accepted(Calls.CAST, 2, 1);
        accepted(Calls.LEAVE, 1, 0);
        accepted(Calls.SELL, 1, 5, 6);
        accepted(Calls.PERFORM, 1);
        accepted(Calls.MEND, 0, 500);
        accepted(Calls.TRACK, 0, 5);
        accepted(Calls.TRACK_BY_FRAMES, 0, 5);
        accepted(Calls.X, 1, 0, 5);
        accepted(Calls.Y, 1, 0, 5);
        accepted(Calls.BENT, 1, 0, 5, 6);
        accepted(Calls.BENT, 1, 0, 6, 5);
        accepted(Calls.LEAST, 0);
        accepted(Calls.IS_BUSY, 0, 5);
        accepted(Calls.WORN, 0);
    }

    private static void refusedByState() {
        Maker full = RefusalsTest::full;
        around(full, 8, 6, Check.STATE, Calls.PUPPET, 0, 0);
        around(full, 8, 6, Check.STATE, Calls.KEY, 7, 500, 0, 0, 0);
        around(full, 8, 6, Check.ELEMENT, Calls.CUT_KEY, 0, 500);
        around(full, 8, 6, Check.ELEMENT, Calls.CUT_KEY, 4, 0);
        around(full, 8, 6, Check.STATE, Calls.SHOW, 0, 1);
        around(full, 8, 6, Check.STATE, Calls.CAST, 0, 2);
        around(full, 8, 6, Check.STATE, Calls.CAST, 0, 0);
        around(full, 8, 6, Check.STATE, Calls.CAST, 1, 0);
        around(full, 8, 6, Check.STATE, Calls.CAST, 3, 0);
        around(full, 8, 6, Check.STATE, Calls.CAST, 4, 1);
        around(full, 8, 6, Check.STATE, Calls.LEAVE, 0, 0);
        around(full, 8, 6, Check.STATE, Calls.LEAVE, 0, 3);
        around(full, 8, 6, Check.STATE, Calls.LEAVE, 1, 1);
        around(full, 8, 6, Check.STATE, Calls.LEAVE, 3, 0);
        around(full, 8, 6, Check.STATE, Calls.SELL, 0, 1, 1);
        around(full, 8, 6, Check.STATE, Calls.SELL, 1, 31, 1);
        around(full, 8, 6, Check.STATE, Calls.SELL, 2, 1, 0);
        around(full, 8, 6, Check.STATE, Calls.PERFORM, 0);
        around(full, 8, 6, Check.STATE, Calls.PERFORM, 3);
        around(full, 8, 6, Check.STATE, Calls.MEND, 2, 500);
        around(full, 8, 6, Check.STATE, Calls.MEND, 0, 105);
        around(full, 8, 6, Check.STATE, Calls.MEND, 0, 205);
        around(full, 8, 6, Check.STATE, Calls.MEND, 1, 402);
        around(full, 8, 6, Check.INDEX, Calls.X, 1, 1, 0);
        around(full, 8, 6, Check.INDEX, Calls.Y, 1, 1, 0);
        around(full, 8, 6, Check.INDEX, Calls.BENT, 1, 1, 0, 0);
        around(full, 8, 6, Check.INDEX, Calls.X, 3, 0, 0);
        around(full, 8, 6, Check.INDEX, Calls.Y, 3, 0, 0);
        around(full, 8, 6, Check.INDEX, Calls.BENT, 3, 0, 0, 0);
    }

    private static void refusedByWear() {
        around(RefusalsTest::wornOut, 1, 6, Check.STATE, Calls.CAST, 5, 0);
    }

    /** On a new object nothing but telling of puppets, sounds and shows is accepted. */
    private static void refusedWithoutAny() {
        for (int call = Calls.SET_LENGTH; call < Calls.INCOME; call++) {
            int parameters = ranges(call, 0, 0).length;
            if (call == Calls.HEAR || call == Calls.SHOW) {
                continue;
            }
            around(Puppetloom::new, 0, 0, Check.INDEX, call, new int[parameters]);
        }
    }

    /** The snapshot is worth something: each accepted call that changes something shows in it. */
    private static void snapshotTellsAll() {
        int[][] changes = {{Calls.PUPPET, 0, 0}, {Calls.SET_LENGTH, 0, 60}, {Calls.KEY, 0, 500, 5, 6, 1},
            {Calls.CUT_KEY, 0, 0}, {Calls.HEAR, 0, 7}, {Calls.CUE, 2, 1}, {Calls.SHOW, 1000, 10}, {Calls.CAST, 2, 1},
            {Calls.LEAVE, 1, 0}, {Calls.SELL, 1, 5, 6}, {Calls.PERFORM, 1}, {Calls.MEND, 0, 500}};
        String untouched = Snapshot.of(small());
        for (int[] change : changes) {
            Puppetloom loom = small();
            Calls.answer(loom, change[0], Arrays.copyOfRange(change, 1, change.length));
            Check.same("seen behind " + Arrays.toString(change), Snapshot.of(loom).equals(untouched), false);
        }
    }
}
