/** Promises 14 to 19: tracks, pulling, places in shows, bent frames, the least length. */
public final class TracksTest {
    private static final int[][] TABLES = {
        {0, 8, 16, 24, 32, 40, 48, 56}, {0, 1, 4, 9, 16, 25, 36, 49},
        {0, 15, 28, 39, 48, 55, 60, 63}, {0, 0, 0, 0, 0, 0, 0, 0}};

    public static void main(String[] args) {
        tracks();
        tables();
        rounding();
        tracksRefused();
        pulling();
        ownFrames();
        collisions();
        pulledOnceMore();
        placesRefused();
        bentFrames();
        leastLengths();
        Check.end("TracksTest");
    }

    private static void both(Puppetloom loom, int puppet, int frame, int due) {
        Check.same("14: track at " + frame, loom.track(puppet, frame), due);
        Check.same("15: trackByFrames at " + frame, loom.trackByFrames(puppet, frame), due);
    }

    private static void tracks() {
        Puppetloom loom = new Puppetloom();
        loom.puppet(999, 0);
        both(loom, 0, 0, 999000);
        both(loom, 0, 1999, 999000);
        loom.key(0, 999, 999, 999, 0);
        both(loom, 0, 0, 999999);
        both(loom, 0, 1999, 999999);
        loom.key(0, 500, 1, 2, 1);
        both(loom, 0, 0, 1002);
        both(loom, 0, 500, 1002);
        both(loom, 0, 562, 1002);
        both(loom, 0, 563, 16017);
        both(loom, 0, 998, 765765);
        both(loom, 0, 999, 999999);
        loom.key(0, 501, 700, 3, 0);
        both(loom, 0, 500, 1002);
        both(loom, 0, 501, 700003);
    }

    private static void tables() {
        for (int ease = 0; ease < 4; ease++) {
            Puppetloom loom = new Puppetloom();
            loom.puppet(0, 0);
            loom.key(0, 100, 100, 640, ease);
            loom.key(0, 108, 740, 0, (ease + 1) % 4);
            for (int place = 0; place < 8; place++) {
                int part = TABLES[ease][place];
                both(loom, 0, 100 + place, 1000 * (100 + 10 * part) + 640 - 10 * part);
            }
            both(loom, 0, 108, 740000);
        }
    }

    private static void rounding() {
        Puppetloom loom = new Puppetloom();
        loom.puppet(0, 0);
        loom.key(0, 0, 10, 0, 0);
        loom.key(0, 3, 9, 1, 0);
        both(loom, 0, 1, 10000);
        both(loom, 0, 2, 10000);
        both(loom, 0, 3, 9001);
        loom.key(0, 3, 0, 10, 0);
        both(loom, 0, 1, 8002);
        both(loom, 0, 2, 4006);
    }

    private static void tracksRefused() {
        Puppetloom loom = new Puppetloom();
        loom.puppet(0, 0);
        Check.refused("14: no puppet ahead of the frame", Check.INDEX, () -> loom.track(1, 2000));
        Check.refused("14: no puppet", Check.INDEX, () -> loom.track(-1, 0));
        Check.refused("14: frame -1", Check.ARGUMENT, () -> loom.track(0, -1));
        Check.refused("14: frame 2000", Check.ARGUMENT, () -> loom.track(0, 2000));
        Check.refused("15: no puppet ahead of the frame", Check.INDEX, () -> loom.trackByFrames(1, 2000));
        Check.refused("15: no puppet", Check.INDEX, () -> loom.trackByFrames(-1, 0));
        Check.refused("15: frame -1", Check.ARGUMENT, () -> loom.trackByFrames(0, -1));
        Check.refused("15: frame 2000", Check.ARGUMENT, () -> loom.trackByFrames(0, 2000));
    }

    private static Puppetloom oneInShow(int bar, int length, int x, int y) {
        Puppetloom loom = new Puppetloom();
        loom.puppet(bar, length);
        loom.key(0, 0, x, y, 0);
        loom.show(0, 1);
        loom.cast(0, 0);
        return loom;
    }

    private static void stands(String what, Puppetloom loom, int puppet, int x, int y) {
        Check.same("16: x " + what, loom.x(0, puppet, 0), x);
        Check.same("17: y " + what, loom.y(0, puppet, 0), y);
    }

    private static void pulling() {
        stands("as far as the string", oneInShow(500, 50, 530, 40), 0, 530, 40);
        stands("one higher", oneInShow(500, 50, 530, 41), 0, 530, 40);
        stands("high above", oneInShow(500, 50, 500, 999), 0, 500, 50);
        stands("rounded down", oneInShow(500, 50, 501, 50), 0, 501, 49);
        stands("right of it", oneInShow(500, 50, 551, 7), 0, 550, 0);
        stands("left of it", oneInShow(500, 50, 3, 7), 0, 450, 0);
        stands("no string", oneInShow(500, 0, 501, 1), 0, 500, 0);
        stands("the longest string", oneInShow(0, 1500, 999, 999), 0, 999, 999);
        stands("nearly long enough", oneInShow(0, 1412, 999, 999), 0, 999, 997);
        Check.same("14: a track is not pulled", oneInShow(500, 0, 3, 7).track(0, 0), 3007);
    }

    private static void ownFrames() {
        Puppetloom loom = new Puppetloom();
        loom.puppet(0, 1500);
        loom.key(0, 0, 0, 0, 0);
        loom.key(0, 8, 800, 80, 0);
        loom.show(0, 1);
        loom.cast(0, 0);
        Check.same("16: without a cue", loom.x(0, 0, 7), 700);
        loom.cue(0, 4);
        Check.same("16: not heard", loom.x(0, 0, 7), 0);
        Check.same("17: not heard", loom.y(0, 0, 1999), 0);
        loom.hear(4, 100);
        Check.same("16: ahead of it", loom.x(0, 0, 99), 0);
        Check.same("16: at it", loom.x(0, 0, 100), 0);
        Check.same("16: behind it", loom.x(0, 0, 101), 100);
        Check.same("17: behind it", loom.y(0, 0, 107), 70);
        Check.same("17: behind the last key", loom.y(0, 0, 1999), 80);
        loom.hear(4, Puppetloom.NONE);
        Check.same("16: not heard any more", loom.x(0, 0, 101), 0);
    }

    /** Each row is a puppet: its bar and only x, its y, and the length of its string, 1500 if that is not told. */
    private static Puppetloom inShow(int[]... rows) {
        Puppetloom loom = new Puppetloom();
        loom.show(0, 1);
        for (int number = 0; number < rows.length; number++) {
            int[] row = rows[number];
            loom.puppet(row[0], row.length > 2 ? row[2] : 1500);
            loom.key(number, 0, row[0], row[1], 0);
        }
        // The order of the casting counts nowhere.
        for (int number = rows.length - 1; number >= 0; number--) {
            loom.cast(0, number);
        }
        return loom;
    }

    private static void collisions() {
        Puppetloom same = inShow(new int[] {500, 50}, new int[] {500, 50});
        stands("of the lower one", same, 0, 500, 50);
        stands("at the same place", same, 1, 510, 50);
        stands("9 less, 9 higher", inShow(new int[] {500, 50}, new int[] {491, 59}), 1, 490, 59);
        stands("9 more, 9 lower", inShow(new int[] {500, 50}, new int[] {509, 41}), 1, 510, 41);
        stands("10 less", inShow(new int[] {500, 50}, new int[] {490, 50}), 1, 490, 50);
        stands("10 more", inShow(new int[] {500, 50}, new int[] {510, 50}), 1, 510, 50);
        stands("10 higher", inShow(new int[] {500, 50}, new int[] {501, 60}), 1, 501, 60);
        stands("10 lower", inShow(new int[] {500, 50}, new int[] {501, 40}), 1, 501, 40);
        stands("below 0", inShow(new int[] {5, 50}, new int[] {4, 50}), 1, -5, 50);
        stands("above 999", inShow(new int[] {995, 50}, new int[] {999, 50}), 1, 1005, 50);
        Puppetloom three = inShow(new int[] {500, 50}, new int[] {515, 50}, new int[] {505, 50});
        stands("moved to and fro, as its x is by then", three, 2, 505, 50);
        Check.same("18: moved to and fro", three.bent(0, 2, 0, 0), 1);
        Puppetloom back = inShow(new int[] {500, 50}, new int[] {512, 50}, new int[] {501, 50});
        stands("moved back onto the first one by the second one", back, 2, 502, 50);
        Puppetloom moved = inShow(new int[] {500, 50}, new int[] {501, 50}, new int[] {515, 50});
        stands("by where the lower one has moved", moved, 2, 520, 50);
        moved.leave(0, 1);
        stands("without the one that left", moved, 2, 515, 50);
    }

    private static void pulledOnceMore() {
        stands("no string to move on", inShow(new int[] {500, 0}, new int[] {500, 0, 0}), 1, 500, 0);
        stands("lower by the move", inShow(new int[] {500, 45}, new int[] {500, 50, 50}), 1, 510, 48);
        Puppetloom short0 = inShow(new int[] {500, 50, 10}, new int[] {505, 3});
        stands("the lower one is pulled first", short0, 0, 500, 10);
        stands("pulled lower ones count", short0, 1, 510, 3);
        Puppetloom pulled = inShow(new int[] {500, 50}, new int[] {505, 99, 55});
        stands("pulled ahead of the collision", pulled, 1, 510, 54);
        Check.same("18: pulled ahead of the collision", pulled.bent(0, 1, 0, 0), 1);
        Puppetloom held = inShow(new int[] {500, 0}, new int[] {500, 0, 0});
        Check.same("18: bent though pulled back", held.bent(0, 1, 0, 9), 10);
    }

    private static void placesRefused() {
        Puppetloom loom = oneInShow(500, 50, 500, 20);
        loom.puppet(0, 0);
        Check.refused("16: no show", Check.INDEX, () -> loom.x(1, 0, 0));
        Check.refused("16: no show", Check.INDEX, () -> loom.x(-1, 0, 0));
        Check.refused("16: has not the puppet, ahead of the frame", Check.INDEX, () -> loom.x(0, 1, 2000));
        Check.refused("16: no puppet", Check.INDEX, () -> loom.x(0, 8, 0));
        Check.refused("16: no puppet", Check.INDEX, () -> loom.x(0, -1, 0));
        Check.refused("16: frame -1", Check.ARGUMENT, () -> loom.x(0, 0, -1));
        Check.refused("16: frame 2000", Check.ARGUMENT, () -> loom.x(0, 0, 2000));
        Check.same("16: frame 1999", loom.x(0, 0, 1999), 500);
        Check.refused("17: no show", Check.INDEX, () -> loom.y(1, 0, 0));
        Check.refused("17: no show", Check.INDEX, () -> loom.y(-1, 0, 0));
        Check.refused("17: has not the puppet, ahead of the frame", Check.INDEX, () -> loom.y(0, 1, 2000));
        Check.refused("17: no puppet", Check.INDEX, () -> loom.y(0, 8, 0));
        Check.refused("17: frame -1", Check.ARGUMENT, () -> loom.y(0, 0, -1));
        Check.refused("17: frame 2000", Check.ARGUMENT, () -> loom.y(0, 0, 2000));
        Check.same("17: frame 1999", loom.y(0, 0, 1999), 20);
        Check.refused("18: no show", Check.INDEX, () -> loom.bent(1, 0, 0, 0));
        Check.refused("18: no show", Check.INDEX, () -> loom.bent(-1, 0, 0, 0));
        Check.refused("18: has not the puppet, ahead of the frames", Check.INDEX, () -> loom.bent(0, 1, 2000, 0));
        Check.refused("18: no puppet", Check.INDEX, () -> loom.bent(0, 8, 0, 0));
        Check.refused("18: from -1", Check.ARGUMENT, () -> loom.bent(0, 0, -1, 0));
        Check.refused("18: from 2000", Check.ARGUMENT, () -> loom.bent(0, 0, 2000, 0));
        Check.refused("18: to -1", Check.ARGUMENT, () -> loom.bent(0, 0, 0, -1));
        Check.refused("18: to 2000", Check.ARGUMENT, () -> loom.bent(0, 0, 0, 2000));
    }

    private static void bentFrames() {
        Puppetloom loom = new Puppetloom();
        loom.puppet(100, 1500);
        loom.puppet(100, 1500);
        loom.key(0, 0, 100, 50, 0);
        loom.key(1, 0, 0, 50, 0);
        loom.key(1, 80, 640, 50, 0);
        loom.show(0, 1);
        loom.cast(0, 0);
        loom.cast(0, 1);
        Check.same("18: at no frame", loom.bent(0, 1, 0, 1999), 0);
        loom.key(1, 0, 96, 50, 0);
        loom.key(1, 80, 160, 50, 0);
        Check.same("18: from the first one to the last one", loom.bent(0, 1, 0, 1999), 20);
        Check.same("18: the first and the last one count", loom.bent(0, 1, 18, 19), 2);
        Check.same("18: one frame", loom.bent(0, 1, 19, 19), 1);
        Check.same("18: one frame behind", loom.bent(0, 1, 20, 20), 0);
        Check.same("18: the last one is ahead of the first one", loom.bent(0, 1, 19, 18), 0);
        Check.same("18: the lower one is never bent", loom.bent(0, 0, 0, 1999), 0);
        loom.cue(1, 0);
        Check.same("18: at every frame without its cue", loom.bent(0, 1, 0, 1999), 2000);
        loom.hear(0, 999);
        Check.same("18: up to its cue and behind it", loom.bent(0, 1, 0, 1999), 1019);
    }

    private static void leastLengths() {
        Puppetloom loom = new Puppetloom();
        loom.puppet(0, 0);
        loom.puppet(999, 0);
        Check.same("19: at its bar", loom.least(0), 0);
        loom.key(0, 999, 3, 4, 0);
        Check.same("19: a whole root", loom.least(0), 5);
        loom.key(0, 999, 4, 4, 0);
        Check.same("19: rounded up", loom.least(0), 6);
        loom.key(0, 0, 1, 0, 0);
        Check.same("19: at the last frame that can have a key", loom.least(0), 6);
        loom.key(0, 0, 10, 0, 3);
        Check.same("19: the farthest one", loom.least(0), 10);
        loom.key(0, 500, 999, 999, 3);
        Check.same("19: the greatest of all", loom.least(0), 1413);
        loom.key(1, 0, 0, 0, 0);
        Check.same("19: left of its bar", loom.least(1), 999);
        loom.cutKey(0, 500);
        loom.cutKey(0, 999);
        loom.key(0, 0, 100, 0, 2);
        loom.key(0, 8, 99, 9, 0);
        Check.same("19: farther out between two keys", loom.least(0), 101);
        loom.key(0, 1, 99, 9, 0);
        Check.same("19: frames that are passed over do not count", loom.least(0), 100);
        Check.refused("19: no puppet", Check.INDEX, () -> loom.least(2));
        Check.refused("19: no puppet", Check.INDEX, () -> loom.least(-1));
    }
}
