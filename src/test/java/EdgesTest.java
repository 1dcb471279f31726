/** The edges that the document's terms name, sentence by sentence; what stands behind "terms:" begins the sentence. */
public final class EdgesTest {
    public static void main(String[] args) {
        askingChangesNothing();
        lastOfAllCalls();
        keysFullAndEmpty();
        keysAtTheEnds();
        placesInTables();
        divisionsTowardsZero();
        frameByFrameAlone();
        pulledOrNot();
        pulledFarOut();
        stringsSetAnew();
        soundsAtTheEnds();
        differByLessThanTen();
        lowerOnesOfTheShow();
        bentOrNot();
        fullShow();
        minutesSideBySide();
        mendingSideBySide();
        wearCountsAtThePerformance();
        asOftenMendedAsCanBe();
        seatsToTheLast();
        leastAtTheEnds();
        leastOfEachHeight();
        Check.end("EdgesTest");
    }

    private static void askingChangesNothing() {
        Puppetloom asked = twoInShow(0, 0, 5, 5);
        Puppetloom left = twoInShow(0, 0, 5, 5);
        for (int puppet = 1; puppet >= 0; puppet--) {
            asked.track(puppet, 1999);
            asked.trackByFrames(puppet, 1999);
            asked.x(0, puppet, 1999);
            asked.y(0, puppet, 1999);
            asked.bent(0, puppet, 0, 1999);
            asked.least(puppet);
            asked.isBusy(puppet, 100);
            asked.worn(puppet);
            asked.income();
        }
        Check.same("terms: places, clashes, wear and money are asked", Snapshot.of(asked), Snapshot.of(left));
    }

    private static void lastOfAllCalls() {
        Puppetloom loom = new Puppetloom();
        loom.puppet(7, 0);
        loom.key(0, 0, 7, 9, 0);
        for (int call = 3; call < 512; call++) {
            loom.hear(call % 10, call);
        }
        Check.same("an object is used for at most 512 calls: the last one", loom.track(0, 0), 7009);
    }

    private static void keysFullAndEmpty() {
        Puppetloom loom = new Puppetloom();
        loom.puppet(3, 0);
        loom.puppet(4, 0);
        for (int frame = 0; frame < 12; frame++) {
            loom.key(0, frame, frame, 0, 0);
        }
        Check.refused("terms: at most 12 keys: full", Check.STATE, () -> loom.key(0, 12, 0, 0, 0));
        Check.same("4: another puppet has its own", loom.key(1, 12, 0, 0, 0), 1);
        Check.same("5: the last one of twelve", loom.cutKey(0, 11), 11);
        Check.same("4: the twelfth one again", loom.key(0, 999, 5, 6, 0), 12);
        Check.refused("4: full again", Check.STATE, () -> loom.key(0, 11, 0, 0, 0));
        for (int frame = 0; frame < 11; frame++) {
            Check.same("5: down to the last one", loom.cutKey(0, frame), 11 - frame);
        }
        Check.same("terms: ahead of its only key", loom.track(0, 0), 5006);
        Check.same("5: the last one", loom.cutKey(0, 999), 0);
        Check.same("terms: without keys", loom.track(0, 999), 3000);
        Check.refused("5: empty", Check.ELEMENT, () -> loom.cutKey(0, 999));
        Check.same("4: out of empty", loom.key(0, 999, 1, 2, 0), 1);
    }

    private static void keysAtTheEnds() {
        Puppetloom loom = new Puppetloom();
        loom.puppet(500, 0);
        loom.key(0, 10, 100, 1, 3);
        loom.key(0, 11, 200, 2, 3);
        loom.key(0, 20, 300, 3, 3);
        int[][] rows = {{0, 100001}, {9, 100001}, {10, 100001}, {11, 200002}, {12, 200002}, {19, 200002},
            {20, 300003}, {21, 300003}, {999, 300003}, {1000, 300003}, {1999, 300003}};
        for (int[] row : rows) {
            Check.same("terms: ahead, at, between, behind: frame " + row[0], loom.track(0, row[0]), row[1]);
        }
        loom.key(0, 11, 220, 2, 0);
        Check.same("4: the ease of the later one counts", loom.track(0, 19), 290002);
        loom.key(0, 5, 50, 7, 3);
        Check.same("4: a new first one", loom.track(0, 0), 50007);
        loom.key(0, 30, 30, 9, 3);
        Check.same("4: a new last one", loom.track(0, 1999), 30009);
    }

    /** A track of so many frames from the x 0 to the x 64: what it tells is what the table has. */
    private static Puppetloom straight(int frames, int ease) {
        Puppetloom loom = new Puppetloom();
        loom.puppet(0, 0);
        loom.key(0, 0, 0, 640, ease);
        loom.key(0, frames, 64, 0, 0);
        return loom;
    }

    private static void placesInTables() {
        int[] squares = {0, 1, 4, 9, 16, 25, 36, 49};
        // The frame, and the place in the table; 8 where the second key is.
        int[][][] spans = {
            {{1}, {0, 0}, {1, 8}}, {{2}, {1, 4}, {2, 8}}, {{3}, {1, 2}, {2, 5}},
            {{7}, {1, 1}, {5, 5}, {6, 6}, {7, 8}}, {{9}, {1, 0}, {2, 1}, {7, 6}, {8, 7}, {9, 8}},
            {{16}, {1, 0}, {2, 1}, {13, 6}, {14, 7}, {15, 7}, {16, 8}},
            {{999}, {1, 0}, {124, 0}, {125, 1}, {249, 1}, {250, 2}, {499, 3}, {500, 4}, {874, 6}, {875, 7}, {998, 7},
                {999, 8}}};
        for (int[][] span : spans) {
            Puppetloom loom = straight(span[0][0], 1);
            for (int i = 1; i < span.length; i++) {
                int part = span[i][1] == 8 ? 64 : squares[span[i][1]];
                Check.same("terms: n is multiplied by 8 and divided: " + span[i][0] + " of " + span[0][0],
                    loom.track(0, span[i][0]), 1000 * part + 640 - 10 * part);
            }
        }
        Check.same("terms: the table of the ease 0 at its last place", straight(8, 0).track(0, 7), 56080);
        Check.same("terms: the table of the ease 2 at its last place", straight(8, 2).track(0, 7), 63010);
        Check.same("terms: the table of the ease 3 at its last place", straight(8, 3).track(0, 7), 640);
    }

    private static void divisionsTowardsZero() {
        Puppetloom loom = new Puppetloom();
        loom.puppet(0, 0);
        loom.key(0, 0, 100, 100, 2);
        // What is had more times 63, divided by 64; and the same that is had less.
        int[][] rows = {{0, 0}, {1, 0}, {2, 1}, {63, 62}, {64, 63}, {65, 63}, {66, 64}, {100, 98}};
        for (int[] row : rows) {
            loom.key(0, 8, 100 + row[0], 100 - row[0], 0);
            Check.same("terms: rounded towards 0: " + row[0], loom.track(0, 7), 1000 * (100 + row[1]) + 100 - row[1]);
        }
        loom.key(0, 0, 0, 999, 2);
        loom.key(0, 8, 999, 0, 0);
        Check.same("terms: as far as there is", loom.track(0, 7), 983016);
    }

    /** Nothing else is asked ahead of it, and no frame twice. */
    private static void frameByFrameAlone() {
        Puppetloom none = new Puppetloom();
        none.puppet(999, 0);
        Check.same("15: without keys, the last frame", none.trackByFrames(0, 1999), 999000);
        Puppetloom loom = new Puppetloom();
        loom.puppet(1, 0);
        loom.key(0, 10, 100, 0, 2);
        loom.key(0, 18, 164, 640, 1);
        loom.key(0, 999, 3, 4, 3);
        int[][] rows = {{1999, 3004}, {0, 100000}, {999, 3004}, {17, 163630}, {9, 100000}, {998, 41154}, {10, 100000},
            {18, 164640}, {1000, 3004}, {11, 115150}, {1, 100000}, {19, 164640}};
        for (int[] row : rows) {
            Check.same("15: frame " + row[0], loom.trackByFrames(0, row[0]), row[1]);
        }
        loom.key(0, 0, 5, 6, 3);
        Check.same("15: at a key at the first frame", loom.trackByFrames(0, 0), 5006);
        Check.same("15: behind it", loom.trackByFrames(0, 9), 5006);
    }

    private static Puppetloom oneInShow(int bar, int length, int x, int y) {
        Puppetloom loom = new Puppetloom();
        loom.puppet(bar, length);
        loom.key(0, 0, x, y, 0);
        loom.show(0, 1);
        loom.cast(0, 0);
        return loom;
    }

    private static void stands(String what, Puppetloom loom, int puppet, int x, int y) {
        Check.same("16: x " + what, loom.x(0, puppet, 0), x);
        Check.same("17: y " + what, loom.y(0, puppet, 0), y);
    }

    /** Each place around short strings: none nearer would do, and none higher. */
    private static void pulledOrNot() {
        for (int length : new int[] {0, 1, 2, 5, 13, 25}) {
            for (int away = -length - 2; away <= length + 2; away++) {
                for (int y = 0; y <= length + 2; y++) {
                    pulledAsDue(length, away, y);
                }
            }
        }
    }

    private static void pulledAsDue(int length, int away, int y) {
        int dueAway = away;
        int dueY = y;
        if (away * away + y * y > length * length) {
            dueAway = away > length ? length : away < -length ? -length : away;
            dueY = 0;
            while (dueAway * dueAway + (dueY + 1) * (dueY + 1) <= length * length) {
                dueY++;
            }
        }
        stands("terms: pulling, length " + length + ", away " + away + ", y " + y,
            oneInShow(500, length, 500 + away, y), 0, 500 + dueAway, dueY);
    }

    private static void pulledFarOut() {
        stands("as long as need be", oneInShow(0, 1413, 999, 999), 0, 999, 999);
        stands("one too short", oneInShow(0, 1412, 999, 999), 0, 999, 997);
        stands("left, one too short", oneInShow(999, 1412, 0, 999), 0, 0, 997);
        stands("far too short", oneInShow(0, 1200, 999, 999), 0, 999, 664);
        stands("just longer than it is away", oneInShow(0, 1000, 999, 999), 0, 999, 44);
        stands("as long as it is away", oneInShow(0, 999, 999, 1), 0, 999, 0);
        stands("as long as it is away, not higher", oneInShow(0, 999, 999, 0), 0, 999, 0);
        stands("shorter than it is away", oneInShow(0, 998, 999, 0), 0, 998, 0);
        stands("below 0, by no pull", oneInShow(0, 0, 999, 999), 0, 0, 0);
        stands("at the last bar", oneInShow(999, 0, 0, 999), 0, 999, 0);
        stands("up to the height", oneInShow(0, 999, 0, 999), 0, 0, 999);
        stands("one less than the height", oneInShow(0, 998, 0, 999), 0, 0, 998);
    }

    private static void stringsSetAnew() {
        Puppetloom loom = oneInShow(500, 50, 600, 0);
        stands("pulled", loom, 0, 550, 0);
        loom.setLength(0, 100);
        stands("by the length that was set", loom, 0, 600, 0);
        loom.setLength(0, 0);
        stands("by no length", loom, 0, 500, 0);
        Check.same("19: whatever its string is", loom.least(0), 100);
        loom.setLength(0, 1500);
        stands("by the greatest length", loom, 0, 600, 0);
    }

    private static void soundsAtTheEnds() {
        Puppetloom loom = new Puppetloom();
        loom.puppet(0, 1500);
        loom.key(0, 0, 10, 0, 3);
        loom.key(0, 999, 20, 0, 3);
        loom.show(0, 1);
        loom.cast(0, 0);
        loom.cue(0, 0);
        loom.hear(9, 5);
        Check.same("terms: the sound of another cue is not its own", loom.x(0, 0, 1999), 10);
        loom.hear(0, 0);
        Check.same("terms: heard at the frame 0", loom.x(0, 0, 998), 10);
        Check.same("terms: heard at the frame 0", loom.x(0, 0, 999), 20);
        loom.hear(0, 999);
        Check.same("terms: heard at the last frame", loom.x(0, 0, 1997), 10);
        Check.same("terms: heard at the last frame", loom.x(0, 0, 1998), 20);
        Check.same("6: again, at the same frame", loom.hear(0, 999), 999);
        Check.same("6: not any more", loom.hear(0, Puppetloom.NONE), 999);
        Check.same("terms: not heard", loom.x(0, 0, 1999), 10);
        loom.key(0, 0, 30, 40, 3);
        loom.setLength(0, 30);
        stands("terms: not heard, and pulled", loom, 0, 30, 0);
    }

    /** Two puppets on long strings, the first one at 500, 500. */
    private static Puppetloom twoInShow(int firstEase, int secondEase, int dx, int dy) {
        Puppetloom loom = new Puppetloom();
        loom.puppet(500, 1500);
        loom.puppet(500, 1500);
        loom.key(0, 0, 500, 500, firstEase);
        loom.key(1, 0, 500 + dx, 500 + dy, secondEase);
        loom.show(0, 1);
        loom.cast(0, 1);
        loom.cast(0, 0);
        return loom;
    }

    private static void differByLessThanTen() {
        for (int dx = -12; dx <= 12; dx++) {
            for (int dy = -12; dy <= 12; dy++) {
                Puppetloom loom = twoInShow(0, 0, dx, dy);
                boolean meet = dx > -10 && dx < 10 && dy > -10 && dy < 10;
                String what = "terms: differ by " + dx + " and " + dy;
                stands(what, loom, 0, 500, 500);
                stands(what, loom, 1, meet ? dx < 0 ? 490 : 510 : 500 + dx, 500 + dy);
                Check.same("18: " + what, loom.bent(0, 1, 0, 0), meet ? 1 : 0);
                Check.same("18: the lower one, " + what, loom.bent(0, 0, 0, 0), 0);
            }
        }
    }

    private static void lowerOnesOfTheShow() {
        Puppetloom loom = new Puppetloom();
        for (int number = 0; number < 8; number++) {
            loom.puppet(100, 1500);
        }
        loom.show(0, 1);
        loom.show(1, 1);
        loom.cast(0, 7);
        loom.cast(1, 0);
        Check.same("terms: the lower one of another show", loom.x(0, 7, 0), 100);
        loom.cast(0, 3);
        Check.same("terms: the only lower one", loom.x(0, 7, 0), 110);
        Check.same("terms: the lowest one", loom.x(0, 3, 0), 100);
        loom.cast(0, 0);
        loom.cast(0, 1);
        // 1 to 110; 3 to 110, and by 1 to 120; 7 to 110, 120, and by 3 to 130.
        Check.same("terms: by rising numbers", loom.x(0, 1, 0), 110);
        Check.same("terms: by rising numbers", loom.x(0, 3, 0), 120);
        Check.same("terms: by rising numbers", loom.x(0, 7, 0), 130);
        loom.leave(0, 0);
        Check.same("10: back where it was", loom.x(0, 1, 0), 100);
        Check.same("9: in two shows, in each with its own lower ones", loom.x(1, 0, 0), 100);
    }

    private static void bentOrNot() {
        Puppetloom always = twoInShow(3, 3, 0, 0);
        Check.same("18: at all frames", always.bent(0, 1, 0, 1999), 2000);
        Check.same("18: at the first frame", always.bent(0, 1, 0, 0), 1);
        Check.same("18: at the last frame", always.bent(0, 1, 1999, 1999), 1);
        Check.same("18: the last one ahead of the first one", always.bent(0, 1, 1999, 0), 0);
        Check.same("18: one ahead", always.bent(0, 1, 1, 0), 0);
        Puppetloom some = twoInShow(3, 3, 0, 0);
        some.key(1, 5, 500, 999, 3);
        some.key(1, 9, 500, 500, 3);
        Check.same("18: up to the frame ahead of it", some.bent(0, 1, 0, 4), 5);
        Check.same("18: between", some.bent(0, 1, 5, 8), 0);
        Check.same("18: all but four", some.bent(0, 1, 0, 1999), 1996);
        Puppetloom lower = twoInShow(0, 0, 30, 0);
        lower.setLength(1, 5);
        Check.same("18: pulled to another height", lower.bent(0, 1, 0, 0), 0);
        lower.key(0, 0, 500, 0, 0);
        Check.same("18: pulled into the lower one", lower.bent(0, 1, 0, 0), 1);
        stands("pulled into it, moved, and pulled once more", lower, 1, 505, 0);
        Puppetloom pulled = twoInShow(0, 0, 0, 0);
        pulled.setLength(1, 400);
        Check.same("18: pulled out of reach", pulled.bent(0, 1, 0, 0), 0);
        stands("pulled out of reach", pulled, 1, 500, 400);
    }

    private static void fullShow() {
        Puppetloom loom = new Puppetloom();
        for (int number = 0; number < 8; number++) {
            loom.puppet(100 * number, 1);
        }
        loom.show(0, 1);
        for (int number = 7; number >= 0; number--) {
            Check.same("9: up to all puppets", loom.cast(0, number), 8 - number);
        }
        for (int number = 0; number < 8; number++) {
            Check.same("10: down to none", loom.leave(0, number), 7 - number);
        }
        Check.refused("12: none any more", Check.STATE, () -> loom.perform(0));
        Check.same("9: again", loom.cast(0, 0), 1);
        Check.same("12: no seats sold", loom.perform(0), 0);
        Check.same("22: no income", loom.income(), 0);
    }

    private static void minutesSideBySide() {
        // The first show goes on from 100 to 109.
        int[][] rows = {{90, 10, 1}, {91, 10, 0}, {90, 11, 0}, {0, 100, 1}, {0, 101, 0}, {99, 1, 1}, {100, 1, 0},
            {105, 1, 0}, {109, 1, 0}, {110, 1, 1}, {109, 600, 0}, {110, 600, 1}, {100, 10, 0}, {99, 12, 0},
            {100000, 600, 1}};
        for (int[] row : rows) {
            Puppetloom loom = new Puppetloom();
            loom.puppet(0, 0);
            loom.puppet(0, 0);
            loom.show(100, 10);
            loom.show(row[0], row[1]);
            loom.cast(0, 0);
            Check.same("9: another puppet is free", loom.cast(1, 1), 1);
            String what = "9: minute " + row[0] + ", minutes " + row[1];
            if (row[2] == 1) {
                Check.same(what, loom.cast(1, 0), 2);
                Check.same("20: begins", loom.isBusy(0, row[0]), true);
                Check.same("20: ends", loom.isBusy(0, row[0] + row[1] - 1), true);
            } else {
                Check.refused(what, Check.STATE, () -> loom.cast(1, 0));
                loom.leave(0, 0);
                Check.same("9: free again", loom.cast(1, 0), 2);
            }
        }
        Puppetloom first = new Puppetloom();
        first.puppet(0, 0);
        first.show(0, 1);
        Check.same("20: nothing yet", first.isBusy(0, 0), false);
        first.cast(0, 0);
        Check.same("20: the first minute of all", first.isBusy(0, 0), true);
        Check.same("20: one minute", first.isBusy(0, 1), false);
        Check.same("20: the last minute of all", first.isBusy(0, 200000), false);
    }

    /** Puppet 0 has three worn joints by the show 0 in the minutes 100 to 109; the show 1 is in 200 to 209. */
    private static Puppetloom threeWorn() {
        Puppetloom loom = new Puppetloom();
        loom.puppet(0, 0);
        loom.key(0, 0, 0, 0, 0);
        loom.key(0, 1, 0, 0, 0);
        loom.key(0, 2, 0, 0, 0);
        loom.show(100, 10);
        loom.show(200, 10);
        loom.cast(0, 0);
        loom.cast(1, 0);
        loom.perform(0);
        return loom;
    }

    private static void mendingSideBySide() {
        int[][] rows = {{97, 1}, {98, 0}, {100, 0}, {109, 0}, {110, 1}, {197, 1}, {198, 0}, {205, 0}, {209, 0},
            {210, 1}, {0, 1}, {100000, 1}};
        for (int[] row : rows) {
            Puppetloom loom = threeWorn();
            int minute = row[0];
            if (row[1] == 0) {
                Check.refused("13: minute " + minute, Check.STATE, () -> loom.mend(0, minute));
                Check.same("21: still worn", loom.worn(0), 3);
                continue;
            }
            Check.same("13: minute " + minute, loom.mend(0, minute), 3);
            Check.same("21: none worn", loom.worn(0), 0);
            Check.same("20: mended", loom.isBusy(0, minute) && loom.isBusy(0, minute + 2), true);
            Check.refused("13: none worn any more", Check.STATE, () -> loom.mend(0, 500));
        }
        Puppetloom loom = threeWorn();
        loom.mend(0, 300);
        Check.same("20: the minute ahead of it", loom.isBusy(0, 299), false);
        Check.same("20: the minute behind it", loom.isBusy(0, 303), false);
        loom.perform(1);
        Check.same("21: worn anew", loom.worn(0), 3);
        Check.refused("13: ends in the first minute of the other mending", Check.STATE, () -> loom.mend(0, 298));
        Check.refused("13: begins in its last minute", Check.STATE, () -> loom.mend(0, 302));
        loom.show(302, 1);
        loom.show(303, 1);
        loom.show(299, 1);
        loom.show(300, 1);
        Check.refused("9: in the last minute of a mending", Check.STATE, () -> loom.cast(2, 0));
        Check.refused("9: in the first minute of a mending", Check.STATE, () -> loom.cast(5, 0));
        Check.same("9: behind a mending", loom.cast(3, 0), 1);
        Check.same("9: ahead of a mending", loom.cast(4, 0), 1);
        Check.same("13: between show and mending", loom.mend(0, 304), 3);
    }

    private static void wearCountsAtThePerformance() {
        Puppetloom loom = new Puppetloom();
        loom.puppet(0, 0);
        loom.puppet(0, 0);
        for (int show = 0; show < 6; show++) {
            loom.show(show, 1);
            loom.cast(show, 0);
        }
        Check.refused("13: no joints at first", Check.STATE, () -> loom.mend(0, 10));
        loom.perform(5);
        Check.same("21: without keys", loom.worn(0), 0);
        loom.key(0, 0, 0, 0, 0);
        loom.perform(0);
        Check.same("terms: as many as it has keys", loom.worn(0), 1);
        Check.same("13: one joint, one minute", loom.mend(0, 10), 1);
        Check.same("20: one minute", loom.isBusy(0, 11), false);
        for (int frame = 1; frame < 12; frame++) {
            loom.key(0, frame, 0, 0, 0);
        }
        loom.perform(1);
        Check.same("terms: of all twelve keys", loom.worn(0), 12);
        loom.perform(2);
        Check.same("21: and more", loom.worn(0), 24);
        Check.same("21: another puppet", loom.worn(1), 0);
        loom.cutKey(0, 0);
        Check.same("21: a key that is cut mends nothing", loom.worn(0), 24);
        loom.perform(3);
        Check.same("21: by eleven keys", loom.worn(0), 35);
        Check.same("13: minutes", loom.mend(0, 11), 35);
    }

    private static void asOftenMendedAsCanBe() {
        Puppetloom loom = new Puppetloom();
        loom.puppet(0, 0);
        for (int frame = 0; frame < 12; frame++) {
            loom.key(0, frame, 0, 0, 0);
        }
        for (int show = 0; show < 6; show++) {
            loom.show(100 * show, 10);
            loom.cast(show, 0);
            loom.perform(show);
            Check.same("13: behind each of six shows", loom.mend(0, 100 * show + 10), 12);
        }
        for (int show = 0; show < 6; show++) {
            Check.same("20: each mending stays", loom.isBusy(0, 100 * show + 21), true);
            Check.same("20: behind it", loom.isBusy(0, 100 * show + 22), false);
        }
    }

    private static void seatsToTheLast() {
        Puppetloom loom = new Puppetloom();
        loom.puppet(0, 0);
        for (int show = 0; show < 6; show++) {
            int number = show;
            loom.show(show, 1);
            Check.same("11: all at once", loom.sell(show, 50, 100), 0);
            Check.refused("11: none left", Check.STATE, () -> loom.sell(number, 1, 0));
            loom.cast(show, 0);
            Check.same("12: the most that a show can bring", loom.perform(show), 5000);
            Check.same("22: up to there", loom.income(), 5000 * (show + 1));
            Check.refused("12: twice", Check.STATE, () -> loom.perform(number));
        }
        Puppetloom other = new Puppetloom();
        other.puppet(0, 0);
        other.show(0, 1);
        other.cast(0, 0);
        Check.same("11: all but one", other.sell(0, 49, 0), 1);
        Check.refused("11: one too many", Check.STATE, () -> other.sell(0, 2, 100));
        Check.same("11: the last one", other.sell(0, 1, 1), 0);
        Check.same("22: ahead of the performance", other.income(), 0);
        Check.same("12: each for its own price", other.perform(0), 1);
    }

    private static void leastAtTheEnds() {
        Puppetloom loom = new Puppetloom();
        loom.puppet(0, 0);
        loom.puppet(500, 1500);
        Check.same("19: without keys, the bar counts", loom.least(1), 0);
        loom.key(0, 0, 30, 40, 0);
        Check.same("19: one key", loom.least(0), 50);
        loom.key(0, 1, 0, 0, 0);
        Check.same("19: at its frame 0 alone", loom.least(0), 50);
        loom.key(0, 0, 30, 41, 0);
        Check.same("19: one higher", loom.least(0), 51);
        loom.key(0, 0, 0, 0, 0);
        loom.key(0, 999, 6, 8, 0);
        Check.same("19: at the frame 999 alone", loom.least(0), 10);
        loom.setLength(0, 10);
        loom.show(0, 1);
        loom.cast(0, 0);
        Check.same("19: with it none is pulled", loom.y(0, 0, 999), 8);
        loom.setLength(0, 9);
        Check.same("19: with one less one is", loom.y(0, 0, 999), 6);
        loom.cue(0, 0);
        Check.same("19: its own frames, whatever its cue", loom.least(0), 10);
        loom.cutKey(0, 999);
        Check.same("19: without the key", loom.least(0), 0);
    }

    /** Roots of every size that there can be, those around powers of two among them. */
    private static void leastOfEachHeight() {
        for (int x : new int[] {0, 999}) {
            int due = 0;
            for (int y = 0; y < 1000; y++) {
                while (due * due < x * x + y * y) {
                    due++;
                }
                Check.same("19: x " + x + ", y " + y, oneInShow(0, 0, x, y).least(0), due);
            }
        }
    }
}
