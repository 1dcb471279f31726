/** Promises 8 to 13 and 20 to 22: shows, casts, seats, wear, mending, and what is asked of them. */
public final class ShowsTest {
    public static void main(String[] args) {
        shows();
        casts();
        clashes();
        wornPuppets();
        leaving();
        seats();
        performing();
        mending();
        mostWorn();
        busy();
        Check.end("ShowsTest");
    }

    private static Puppetloom loomWithKeys(int keys) {
        Puppetloom loom = new Puppetloom();
        loom.puppet(10, 20);
        for (int frame = 0; frame < keys; frame++) {
            loom.key(0, frame, 0, 0, 0);
        }
        return loom;
    }

    private static void shows() {
        Puppetloom loom = new Puppetloom();
        Check.refused("8: minute -1", Check.ARGUMENT, () -> loom.show(-1, 1));
        Check.refused("8: minute 100001", Check.ARGUMENT, () -> loom.show(100001, 1));
        Check.refused("8: 0 minutes", Check.ARGUMENT, () -> loom.show(0, 0));
        Check.refused("8: 601 minutes", Check.ARGUMENT, () -> loom.show(0, 601));
        for (int number = 0; number < 6; number++) {
            Check.same("8: number", loom.show(number == 0 ? 0 : 100000, number == 0 ? 1 : 600), number);
        }
        Check.refused("8: a seventh one", Check.STATE, () -> loom.show(0, 1));
        Check.refused("8: range ahead of the count", Check.ARGUMENT, () -> loom.show(0, 601));
    }

    private static void casts() {
        Puppetloom loom = loomWithKeys(1);
        loom.puppet(0, 0);
        loom.show(0, 10);
        Check.refused("9: no show", Check.INDEX, () -> loom.cast(1, 0));
        Check.refused("9: no show", Check.INDEX, () -> loom.cast(-1, 0));
        Check.refused("9: no puppet", Check.INDEX, () -> loom.cast(0, 2));
        Check.refused("9: no puppet", Check.INDEX, () -> loom.cast(0, -1));
        Check.same("9: how many", loom.cast(0, 1), 1);
        Check.refused("9: has the puppet", Check.STATE, () -> loom.cast(0, 1));
        Check.same("9: how many", loom.cast(0, 0), 2);
        loom.leave(0, 0);
        loom.perform(0);
        Check.refused("9: performed", Check.STATE, () -> loom.cast(0, 0));
        Check.refused("9: no puppet ahead of performed", Check.INDEX, () -> loom.cast(0, 2));
    }

    private static void clashes() {
        Puppetloom loom = loomWithKeys(2);
        loom.show(10, 20);
        loom.show(29, 5);
        loom.show(30, 5);
        loom.show(9, 1);
        loom.show(9, 2);
        loom.show(0, 100);
        loom.cast(0, 0);
        Check.refused("9: begins in its last minute", Check.STATE, () -> loom.cast(1, 0));
        Check.refused("9: ends in its first minute", Check.STATE, () -> loom.cast(4, 0));
        Check.refused("9: goes on all around it", Check.STATE, () -> loom.cast(5, 0));
        Check.same("9: begins behind it", loom.cast(2, 0), 1);
        Check.same("9: ends ahead of it", loom.cast(3, 0), 1);
        loom.leave(2, 0);
        loom.leave(3, 0);
        loom.perform(0);
        Check.refused("9: a performed show goes on too", Check.STATE, () -> loom.cast(5, 0));
        loom.mend(0, 33);
        Check.refused("9: mended in one of its minutes", Check.STATE, () -> loom.cast(2, 0));
        Check.same("9: ahead of all", loom.cast(3, 0), 1);
    }

    /** Has five shows behind it and the sixth ahead: 48 worn joints, and as many as it had keys in the fifth show. */
    private static Puppetloom loomWithWorn(int keysInTheFifth) {
        Puppetloom loom = loomWithKeys(12);
        for (int number = 0; number < 6; number++) {
            loom.show(number * 10, 10);
        }
        for (int number = 0; number < 5; number++) {
            loom.cast(number, 0);
            for (int frame = 11; number == 4 && frame >= keysInTheFifth; frame--) {
                loom.cutKey(0, frame);
            }
            loom.perform(number);
        }
        return loom;
    }

    private static void wornPuppets() {
        Puppetloom nearly = loomWithWorn(1);
        Check.same("21: worn", nearly.worn(0), 49);
        Check.same("9: 49 worn joints", nearly.cast(5, 0), 1);
        Puppetloom loom = loomWithWorn(2);
        Check.same("21: worn", loom.worn(0), 50);
        Check.refused("9: 50 worn joints", Check.STATE, () -> loom.cast(5, 0));
        Check.same("13: minutes", loom.mend(0, 100), 50);
        Check.same("9: mended", loom.cast(5, 0), 1);
        Puppetloom more = loomWithWorn(3);
        Check.refused("9: 51 worn joints", Check.STATE, () -> more.cast(5, 0));
    }

    private static void leaving() {
        Puppetloom loom = loomWithKeys(1);
        loom.puppet(0, 0);
        loom.show(0, 10);
        loom.show(5, 10);
        loom.cast(0, 0);
        loom.cast(0, 1);
        Check.refused("10: no show", Check.INDEX, () -> loom.leave(2, 0));
        Check.refused("10: no show", Check.INDEX, () -> loom.leave(-1, 0));
        Check.refused("10: no puppet", Check.INDEX, () -> loom.leave(0, 2));
        Check.refused("10: no puppet", Check.INDEX, () -> loom.leave(0, -1));
        Check.refused("10: has not the puppet", Check.STATE, () -> loom.leave(1, 0));
        Check.same("10: how many", loom.leave(0, 0), 1);
        Check.refused("10: twice", Check.STATE, () -> loom.leave(0, 0));
        Check.same("10: is free then", loom.cast(1, 0), 1);
        loom.perform(0);
        Check.refused("10: performed", Check.STATE, () -> loom.leave(0, 1));
        Check.same("10: the one that left is not worn", loom.worn(0), 0);
    }

    private static void seats() {
        Puppetloom loom = loomWithKeys(1);
        loom.show(0, 10);
        loom.show(20, 10);
        loom.cast(0, 0);
        Check.refused("11: no show ahead of the range", Check.INDEX, () -> loom.sell(2, 0, 0));
        Check.refused("11: no show", Check.INDEX, () -> loom.sell(-1, 1, 0));
        Check.refused("11: 0 seats", Check.ARGUMENT, () -> loom.sell(0, 0, 0));
        Check.refused("11: 51 seats", Check.ARGUMENT, () -> loom.sell(0, 51, 0));
        Check.refused("11: price -1", Check.ARGUMENT, () -> loom.sell(0, 1, -1));
        Check.refused("11: price 101", Check.ARGUMENT, () -> loom.sell(0, 1, 101));
        Check.same("11: left", loom.sell(0, 10, 100), 40);
        Check.refused("11: not so many left", Check.STATE, () -> loom.sell(0, 41, 0));
        Check.same("11: left", loom.sell(0, 39, 3), 1);
        Check.same("11: none left", loom.sell(0, 1, 0), 0);
        Check.refused("11: none left", Check.STATE, () -> loom.sell(0, 1, 0));
        Check.refused("11: range ahead of what is left", Check.ARGUMENT, () -> loom.sell(0, 51, 0));
        Check.same("11: without puppets, each show its own", loom.sell(1, 50, 100), 0);
        Check.same("22: ahead of the show", loom.income(), 0);
        Check.same("12: what is income", loom.perform(0), 1117);
        Check.same("22: the other show is not performed", loom.income(), 1117);
        Check.refused("11: performed", Check.STATE, () -> loom.sell(0, 1, 0));
        loom.cast(1, 0);
        Check.same("12: what is income by it alone", loom.perform(1), 5000);
        Check.same("22: all income", loom.income(), 6117);
    }

    private static void performing() {
        Puppetloom loom = loomWithKeys(3);
        loom.puppet(0, 0);
        loom.puppet(0, 0);
        loom.key(2, 0, 0, 0, 0);
        loom.show(0, 10);
        Check.refused("12: no show", Check.INDEX, () -> loom.perform(1));
        Check.refused("12: no show", Check.INDEX, () -> loom.perform(-1));
        loom.sell(0, 5, 5);
        Check.refused("12: no puppets", Check.STATE, () -> loom.perform(0));
        loom.cast(0, 0);
        loom.leave(0, 0);
        Check.refused("12: no puppets any more", Check.STATE, () -> loom.perform(0));
        loom.cast(0, 0);
        loom.cast(0, 1);
        Check.same("12: income by it", loom.perform(0), 25);
        Check.refused("12: performed", Check.STATE, () -> loom.perform(0));
        Check.same("22: once", loom.income(), 25);
        Check.same("21: as many as it has keys", loom.worn(0), 3);
        Check.same("21: no keys", loom.worn(1), 0);
        Check.same("21: not in the show", loom.worn(2), 0);
        Check.refused("21: no puppet", Check.INDEX, () -> loom.worn(3));
        Check.refused("21: no puppet", Check.INDEX, () -> loom.worn(-1));
        Check.same("12: it can still be asked of", loom.x(0, 0, 0), 0);
    }

    private static void mending() {
        Puppetloom loom = loomWithKeys(5);
        loom.show(10, 10);
        loom.show(30, 10);
        loom.cast(0, 0);
        loom.cast(1, 0);
        Check.refused("13: no worn joints", Check.STATE, () -> loom.mend(0, 50));
        loom.perform(0);
        Check.refused("13: no puppet ahead of the minute", Check.INDEX, () -> loom.mend(1, -1));
        Check.refused("13: no puppet", Check.INDEX, () -> loom.mend(-1, 0));
        Check.refused("13: minute -1", Check.ARGUMENT, () -> loom.mend(0, -1));
        Check.refused("13: minute 100001", Check.ARGUMENT, () -> loom.mend(0, 100001));
        Check.refused("13: ends in a minute of a performed show", Check.STATE, () -> loom.mend(0, 6));
        Check.refused("13: begins in its last minute", Check.STATE, () -> loom.mend(0, 19));
        Check.refused("13: ends in a minute of a planned show", Check.STATE, () -> loom.mend(0, 26));
        Check.same("21: still worn", loom.worn(0), 5);
        Check.same("13: ends ahead of it", loom.mend(0, 25), 5);
        Check.same("21: none worn", loom.worn(0), 0);
        Check.refused("13: none worn", Check.STATE, () -> loom.mend(0, 50));
        loom.perform(1);
        Check.refused("13: mended in one of these minutes", Check.STATE, () -> loom.mend(0, 21));
        Check.same("13: the last minute to begin", loom.mend(0, 100000), 5);
        Check.same("20: the last minute of it", loom.isBusy(0, 100004), true);
        Check.same("20: the one behind it", loom.isBusy(0, 100005), false);
    }

    // Six shows of twelve keys: no run of calls gets beyond 72 worn joints, or beyond six mendings.
    private static void mostWorn() {
        Puppetloom loom = loomWithKeys(12);
        for (int number = 0; number < 6; number++) {
            loom.show(number, 1);
            loom.cast(number, 0);
        }
        for (int number = 0; number < 5; number++) {
            loom.perform(number);
        }
        Check.same("21: worn beyond 50 by shows that have it", loom.worn(0), 60);
        loom.perform(5);
        Check.same("21: worn", loom.worn(0), 72);
        Check.same("13: minutes", loom.mend(0, 6), 72);
        Check.same("20: its last minute", loom.isBusy(0, 77), true);
        Check.same("20: behind it", loom.isBusy(0, 78), false);
    }

    private static void busy() {
        Puppetloom loom = loomWithKeys(2);
        loom.puppet(0, 0);
        loom.show(10, 20);
        loom.show(100000, 600);
        loom.cast(0, 0);
        loom.cast(1, 0);
        Check.refused("20: no puppet ahead of the minute", Check.INDEX, () -> loom.isBusy(2, 200001));
        Check.refused("20: no puppet", Check.INDEX, () -> loom.isBusy(-1, 0));
        Check.refused("20: minute -1", Check.ARGUMENT, () -> loom.isBusy(0, -1));
        Check.refused("20: minute 200001", Check.ARGUMENT, () -> loom.isBusy(0, 200001));
        Check.same("20: ahead of the show", loom.isBusy(0, 9), false);
        Check.same("20: its first minute", loom.isBusy(0, 10), true);
        Check.same("20: its last minute", loom.isBusy(0, 29), true);
        Check.same("20: behind it", loom.isBusy(0, 30), false);
        Check.same("20: another puppet", loom.isBusy(1, 10), false);
        Check.same("20: the last minute of all shows", loom.isBusy(0, 100599), true);
        Check.same("20: behind it", loom.isBusy(0, 100600), false);
        Check.same("20: the last one", loom.isBusy(0, 200000), false);
        loom.perform(0);
        Check.same("20: performed", loom.isBusy(0, 10), true);
        loom.mend(0, 30);
        Check.same("20: mended", loom.isBusy(0, 31), true);
        Check.same("20: behind that", loom.isBusy(0, 32), false);
        loom.leave(1, 0);
        Check.same("20: left", loom.isBusy(0, 100000), false);
    }
}
