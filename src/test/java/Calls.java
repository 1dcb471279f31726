/** The calls of the face by their numbers in the order of the document, with their arguments in a row. */
final class Calls {
    static final String[] NAMES = {"puppet", "setLength", "key", "cutKey", "hear", "cue", "show", "cast", "leave",
        "sell", "perform", "mend", "track", "trackByFrames", "x", "y", "bent", "least", "isBusy", "worn", "income"};

    static final int PUPPET = 0;
    static final int SET_LENGTH = 1;
    static final int KEY = 2;
    static final int CUT_KEY = 3;
    static final int HEAR = 4;
    static final int CUE = 5;
    static final int SHOW = 6;
    static final int CAST = 7;
    static final int LEAVE = 8;
    static final int SELL = 9;
    static final int PERFORM = 10;
    static final int MEND = 11;
    static final int TRACK = 12;
    static final int TRACK_BY_FRAMES = 13;
    static final int X = 14;
    static final int Y = 15;
    static final int BENT = 16;
    static final int LEAST = 17;
    static final int IS_BUSY = 18;
    static final int WORN = 19;
    static final int INCOME = 20;

    interface Call {
        int answer();
    }

    private Calls() {
    }

    static int answer(Puppetloom loom, int call, int... a) {
        switch (call) {
            case PUPPET: return loom.puppet(a[0], a[1]);
            case SET_LENGTH: return loom.setLength(a[0], a[1]);
            case KEY: return loom.key(a[0], a[1], a[2], a[3], a[4]);
            case CUT_KEY: return loom.cutKey(a[0], a[1]);
            case HEAR: return loom.hear(a[0], a[1]);
            case CUE: return loom.cue(a[0], a[1]);
            case SHOW: return loom.show(a[0], a[1]);
            case CAST: return loom.cast(a[0], a[1]);
            case LEAVE: return loom.leave(a[0], a[1]);
            case SELL: return loom.sell(a[0], a[1], a[2]);
            case PERFORM: return loom.perform(a[0]);
            case MEND: return loom.mend(a[0], a[1]);
            case TRACK: return loom.track(a[0], a[1]);
            case TRACK_BY_FRAMES: return loom.trackByFrames(a[0], a[1]);
            case X: return loom.x(a[0], a[1], a[2]);
            case Y: return loom.y(a[0], a[1], a[2]);
            case BENT: return loom.bent(a[0], a[1], a[2], a[3]);
            case LEAST: return loom.least(a[0]);
            case IS_BUSY: return loom.isBusy(a[0], a[1]) ? 1 : 0;
            case WORN: return loom.worn(a[0]);
            default: return loom.income();
        }
    }

    static String outcome(Call call) {
        try {
            return "" + call.answer();
        } catch (RuntimeException thrown) {
            return Check.named(thrown);
        }
    }

    static String outcome(Puppetloom loom, int call, int... a) {
        return outcome(() -> answer(loom, call, a));
    }
}
