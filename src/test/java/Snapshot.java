/** All that an object can be made to tell. Taking it changes the object: it is taken of one that is then left alone. */
final class Snapshot {
    private static final int[] FRAMES = {0, 3, 999};
    private static final int[] MINUTES = {99, 100, 109, 110, 202, 205, 305, 400, 402, 404, 500, 602, 1000};

    private Snapshot() {
    }

    static String of(Puppetloom loom) {
        StringBuilder told = new StringBuilder();
        askPuppets(loom, told);
        askShows(loom, told);
        tellAnew(loom, told);
        return told.toString();
    }

    private static void add(StringBuilder told, Puppetloom loom, int call, int... a) {
        told.append(Calls.NAMES[call]);
        for (int argument : a) {
            told.append(' ').append(argument);
        }
        told.append(" = ").append(Calls.outcome(loom, call, a)).append('\n');
    }

    private static void askPuppets(Puppetloom loom, StringBuilder told) {
        for (int puppet = 0; puppet < 8; puppet++) {
            add(told, loom, Calls.WORN, puppet);
            add(told, loom, Calls.LEAST, puppet);
            for (int frame : FRAMES) {
                add(told, loom, Calls.TRACK, puppet, frame);
            }
        }
        for (int minute : MINUTES) {
            for (int puppet = 0; puppet < 3; puppet++) {
                add(told, loom, Calls.IS_BUSY, puppet, minute);
            }
        }
    }

    private static void askShows(Puppetloom loom, StringBuilder told) {
        for (int show = 0; show < 6; show++) {
            for (int puppet = 0; puppet < 8; puppet++) {
                add(told, loom, Calls.X, show, puppet, 9);
                add(told, loom, Calls.Y, show, puppet, 9);
                add(told, loom, Calls.BENT, show, puppet, 0, 63);
            }
        }
    }

    // What no call asks of is seen by the answers of calls that change it.
    private static void tellAnew(Puppetloom loom, StringBuilder told) {
        add(told, loom, Calls.INCOME);
        for (int puppet = 0; puppet < 8; puppet++) {
            add(told, loom, Calls.SET_LENGTH, puppet, 1);
            add(told, loom, Calls.CUE, puppet, Puppetloom.NONE);
            add(told, loom, Calls.KEY, puppet, 998, 0, 0, 0);
        }
        for (int sound = 0; sound < 10; sound++) {
            add(told, loom, Calls.HEAR, sound, Puppetloom.NONE);
        }
        for (int show = 0; show < 6; show++) {
            add(told, loom, Calls.SELL, show, 1, 0);
            add(told, loom, Calls.PERFORM, show);
        }
        add(told, loom, Calls.PUPPET, 0, 0);
        add(told, loom, Calls.SHOW, 0, 1);
    }
}
