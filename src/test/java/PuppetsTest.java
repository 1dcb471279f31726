/** Promises 1 to 7: a new object, puppets, strings, keys, sounds and cues. */
public final class PuppetsTest {
    public static void main(String[] args) {
        newObject();
        puppets();
        strings();
        keys();
        keysCut();
        sounds();
        cues();
        Check.end("PuppetsTest");
    }

    private static void newObject() {
        Puppetloom loom = new Puppetloom();
        Check.same("NONE", Puppetloom.NONE, -1);
        Check.same("1: income of a new object", loom.income(), 0);
        Check.refused("1: no puppets", Check.INDEX, () -> loom.worn(0));
        Check.refused("1: no shows", Check.INDEX, () -> loom.perform(0));
        for (int sound = 0; sound < 10; sound++) {
            Check.same("1: nothing is heard", loom.hear(sound, Puppetloom.NONE), Puppetloom.NONE);
        }
    }

    private static void puppets() {
        Puppetloom loom = new Puppetloom();
        Check.refused("2: bar -1", Check.ARGUMENT, () -> loom.puppet(-1, 0));
        Check.refused("2: bar 1000", Check.ARGUMENT, () -> loom.puppet(1000, 0));
        Check.refused("2: length -1", Check.ARGUMENT, () -> loom.puppet(0, -1));
        Check.refused("2: length 1501", Check.ARGUMENT, () -> loom.puppet(0, 1501));
        for (int number = 0; number < 8; number++) {
            Check.same("2: number", loom.puppet(number == 7 ? 999 : number, number == 7 ? 1500 : 0), number);
        }
        Check.same("2: bar", loom.track(7, 0), 999000);
        Check.refused("2: a ninth one", Check.STATE, () -> loom.puppet(0, 0));
        Check.refused("2: range ahead of the count", Check.ARGUMENT, () -> loom.puppet(0, 1501));
        Check.refused("2: none is made by a throwing call", Check.INDEX, () -> loom.worn(8));
    }

    private static void strings() {
        Puppetloom loom = new Puppetloom();
        loom.puppet(10, 20);
        Check.same("3: length that it was", loom.setLength(0, 1500), 20);
        Check.same("3: length that it was", loom.setLength(0, 0), 1500);
        Check.refused("3: length -1", Check.ARGUMENT, () -> loom.setLength(0, -1));
        Check.refused("3: length 1501", Check.ARGUMENT, () -> loom.setLength(0, 1501));
        Check.refused("3: no puppet", Check.INDEX, () -> loom.setLength(1, 1501));
        Check.refused("3: no puppet", Check.INDEX, () -> loom.setLength(-1, 5));
        Check.same("3: unchanged by throwing calls", loom.setLength(0, 3), 0);
    }

    private static void keys() {
        Puppetloom loom = new Puppetloom();
        loom.puppet(10, 20);
        Check.refused("4: no puppet", Check.INDEX, () -> loom.key(1, 1000, 0, 0, 0));
        Check.refused("4: no puppet", Check.INDEX, () -> loom.key(-1, 0, 0, 0, 0));
        int[][] outside = {{-1, 0, 0, 0}, {1000, 0, 0, 0}, {0, -1, 0, 0}, {0, 1000, 0, 0},
            {0, 0, -1, 0}, {0, 0, 1000, 0}, {0, 0, 0, -1}, {0, 0, 0, 4}};
        for (int[] key : outside) {
            Check.refused("4: out of range", Check.ARGUMENT, () -> loom.key(0, key[0], key[1], key[2], key[3]));
        }
        Check.same("4: no key by throwing calls", loom.track(0, 0), 10000);
        Check.same("4: a key at 999", loom.key(0, 999, 999, 999, 3), 1);
        Check.same("4: a key at 0", loom.key(0, 0, 0, 0, 0), 2);
        Check.same("4: in place of one", loom.key(0, 999, 998, 997, 3), 2);
        Check.same("4: the later one counts", loom.track(0, 999), 998997);
        for (int frame = 11; frame > 1; frame--) {
            Check.same("4: how many", loom.key(0, frame, frame, frame, 0), 14 - frame);
        }
        Check.refused("4: a thirteenth one", Check.STATE, () -> loom.key(0, 1, 1, 1, 0));
        Check.refused("4: range ahead of the count", Check.ARGUMENT, () -> loom.key(0, 1, 1, 1, 4));
        Check.same("4: in place of one of twelve", loom.key(0, 5, 7, 8, 0), 12);
        Check.same("4: the later one counts", loom.track(0, 5), 7008);
        Check.same("4: the others stay", loom.track(0, 6), 6006);
    }

    private static void keysCut() {
        Puppetloom loom = new Puppetloom();
        loom.puppet(10, 20);
        Check.refused("5: no puppet", Check.INDEX, () -> loom.cutKey(1, 0));
        Check.refused("5: no puppet", Check.INDEX, () -> loom.cutKey(-1, 0));
        Check.refused("5: no key", Check.ELEMENT, () -> loom.cutKey(0, 0));
        loom.key(0, 10, 100, 1, 0);
        loom.key(0, 20, 200, 2, 0);
        loom.key(0, 30, 300, 3, 0);
        Check.refused("5: no key between", Check.ELEMENT, () -> loom.cutKey(0, 15));
        Check.refused("5: a frame that no key can have", Check.ELEMENT, () -> loom.cutKey(0, 1000));
        Check.refused("5: a frame that no key can have", Check.ELEMENT, () -> loom.cutKey(0, -1));
        Check.same("5: how many", loom.cutKey(0, 20), 2);
        Check.same("5: the track goes past it", loom.track(0, 20), 200002);
        Check.same("5: the track goes past it", loom.track(0, 25), 250002);
        Check.same("5: the first one", loom.cutKey(0, 10), 1);
        Check.same("5: the last one", loom.cutKey(0, 30), 0);
        Check.refused("5: twice", Check.ELEMENT, () -> loom.cutKey(0, 30));
        Check.same("5: at its bar again", loom.track(0, 30), 10000);
    }

    private static void sounds() {
        Puppetloom loom = new Puppetloom();
        Check.refused("6: sound -1", Check.INDEX, () -> loom.hear(-1, 0));
        Check.refused("6: sound 10 ahead of the frame", Check.INDEX, () -> loom.hear(10, 1000));
        Check.refused("6: frame 1000", Check.ARGUMENT, () -> loom.hear(0, 1000));
        Check.refused("6: frame -2", Check.ARGUMENT, () -> loom.hear(0, -2));
        Check.same("6: not yet", loom.hear(9, 0), Puppetloom.NONE);
        Check.same("6: at 0", loom.hear(9, 999), 0);
        Check.same("6: at 999", loom.hear(9, Puppetloom.NONE), 999);
        Check.same("6: not heard", loom.hear(9, 5), Puppetloom.NONE);
        Check.same("6: each for itself", loom.hear(8, 5), Puppetloom.NONE);
    }

    private static void cues() {
        Puppetloom loom = new Puppetloom();
        loom.puppet(0, 1500);
        loom.key(0, 0, 100, 0, 0);
        loom.key(0, 8, 180, 0, 0);
        loom.show(0, 1);
        loom.cast(0, 0);
        Check.refused("7: no puppet", Check.INDEX, () -> loom.cue(1, 0));
        Check.refused("7: no puppet", Check.INDEX, () -> loom.cue(-1, 0));
        Check.refused("7: sound 10", Check.INDEX, () -> loom.cue(0, 10));
        Check.refused("7: sound -2", Check.INDEX, () -> loom.cue(0, -2));
        Check.same("7: none at first", loom.cue(0, 9), Puppetloom.NONE);
        Check.same("7: a cue that is not heard", loom.x(0, 0, 1999), 100);
        loom.hear(9, 3);
        Check.same("7: ahead of its cue", loom.x(0, 0, 2), 100);
        Check.same("7: at its cue", loom.x(0, 0, 3), 100);
        Check.same("7: behind its cue", loom.x(0, 0, 4), 110);
        Check.same("7: its own frames are its own", loom.track(0, 4), 140000);
        Check.same("7: the cue that it had", loom.cue(0, 0), 9);
        Check.same("7: the cue that it had", loom.cue(0, Puppetloom.NONE), 0);
        Check.same("7: without a cue", loom.x(0, 0, 4), 140);
        Check.same("7: the cue that it had", loom.cue(0, Puppetloom.NONE), Puppetloom.NONE);
    }
}
