import java.util.ArrayList;
import java.util.List;
import java.util.NoSuchElementException;
import java.util.TreeMap;
import java.util.TreeSet;

/** The document once more, slow and plain: minutes are held one by one, roots are looked for one by one. */
final class Model {
    private static final int[][] TABLES = {
        {0, 8, 16, 24, 32, 40, 48, 56}, {0, 1, 4, 9, 16, 25, 36, 49},
        {0, 15, 28, 39, 48, 55, 60, 63}, {0, 0, 0, 0, 0, 0, 0, 0}};

    private static final class Doll {
        int bar;
        int length;
        int cue = -1;
        int worn;
        int timesMended;
        final TreeMap<Integer, int[]> keys = new TreeMap<>();
        final TreeSet<Integer> mended = new TreeSet<>();
    }

    private static final class Play {
        int minute;
        int minutes;
        int left = 50;
        int money;
        boolean over;
        final TreeSet<Integer> cast = new TreeSet<>();
    }

    private final List<Doll> dolls = new ArrayList<>();
    private final List<Play> plays = new ArrayList<>();
    private final int[] heard = {-1, -1, -1, -1, -1, -1, -1, -1, -1, -1};
    private int income;

    /** Answers the call of this number in the order of the document; arguments beyond those it has are ignored. */
    int answer(int call, int[] a) {
        switch (call) {
            case 0: return puppet(a[0], a[1]);
            case 1: return setLength(a[0], a[1]);
            case 2: return key(a[0], a[1], a[2], a[3], a[4]);
            case 3: return cutKey(a[0], a[1]);
            case 4: return hear(a[0], a[1]);
            case 5: return cue(a[0], a[1]);
            case 6: return show(a[0], a[1]);
            case 7: return cast(a[0], a[1]);
            case 8: return leave(a[0], a[1]);
            case 9: return sell(a[0], a[1], a[2]);
            case 10: return perform(a[0]);
            case 11: return mend(a[0], a[1]);
            case 12: case 13: return track(a[0], a[1]);
            case 14: return place(a[0], a[1], a[2])[0];
            case 15: return place(a[0], a[1], a[2])[1];
            case 16: return bent(a[0], a[1], a[2], a[3]);
            case 17: return least(a[0]);
            case 18: return isBusy(a[0], a[1]) ? 1 : 0;
            case 19: return doll(a[0]).worn;
            default: return income;
        }
    }

    private static void index(boolean good) {
        if (!good) {
            throw new IndexOutOfBoundsException();
        }
    }

    private static void range(int value, int least, int most) {
        if (value < least || value > most) {
            throw new IllegalArgumentException();
        }
    }

    private static void state(boolean good) {
        if (!good) {
            throw new IllegalStateException();
        }
    }

    private Doll doll(int number) {
        index(number >= 0 && number < dolls.size());
        return dolls.get(number);
    }

    private Play play(int number) {
        index(number >= 0 && number < plays.size());
        return plays.get(number);
    }

    private int puppet(int bar, int length) {
        range(bar, 0, 999);
        range(length, 0, 1500);
        state(dolls.size() < 8);
        Doll made = new Doll();
        made.bar = bar;
        made.length = length;
        dolls.add(made);
        return dolls.size() - 1;
    }

    private int setLength(int puppet, int length) {
        Doll doll = doll(puppet);
        range(length, 0, 1500);
        int was = doll.length;
        doll.length = length;
        return was;
    }

    private int key(int puppet, int frame, int x, int y, int ease) {
        Doll doll = doll(puppet);
        range(frame, 0, 999);
        range(x, 0, 999);
        range(y, 0, 999);
        range(ease, 0, 3);
        state(doll.keys.containsKey(frame) || doll.keys.size() < 12);
        doll.keys.put(frame, new int[] {x, y, ease});
        return doll.keys.size();
    }

    private int cutKey(int puppet, int frame) {
        Doll doll = doll(puppet);
        if (doll.keys.remove(frame) == null) {
            throw new NoSuchElementException();
        }
        return doll.keys.size();
    }

    private int hear(int sound, int frame) {
        index(sound >= 0 && sound <= 9);
        range(frame, -1, 999);
        int was = heard[sound];
        heard[sound] = frame;
        return was;
    }

    private int cue(int puppet, int sound) {
        Doll doll = doll(puppet);
        index(sound >= -1 && sound <= 9);
        int was = doll.cue;
        doll.cue = sound;
        return was;
    }

    private int show(int minute, int minutes) {
        range(minute, 0, 100000);
        range(minutes, 1, 600);
        state(plays.size() < 6);
        Play made = new Play();
        made.minute = minute;
        made.minutes = minutes;
        plays.add(made);
        return plays.size() - 1;
    }

    private TreeSet<Integer> minutesOf(int puppet) {
        TreeSet<Integer> all = new TreeSet<>(dolls.get(puppet).mended);
        for (Play play : plays) {
            for (int i = 0; play.cast.contains(puppet) && i < play.minutes; i++) {
                all.add(play.minute + i);
            }
        }
        return all;
    }

    private boolean isFree(int puppet, int minute, int minutes) {
        return minutesOf(puppet).subSet(minute, minute + minutes).isEmpty();
    }

    private int cast(int show, int puppet) {
        Play play = play(show);
        Doll doll = doll(puppet);
        state(!play.over);
        state(!play.cast.contains(puppet));
        state(doll.worn < 50);
        state(isFree(puppet, play.minute, play.minutes));
        play.cast.add(puppet);
        return play.cast.size();
    }

    private int leave(int show, int puppet) {
        Play play = play(show);
        doll(puppet);
        state(!play.over);
        state(play.cast.remove(puppet));
        return play.cast.size();
    }

    private int sell(int show, int seats, int price) {
        Play play = play(show);
        range(seats, 1, 50);
        range(price, 0, 100);
        state(!play.over);
        state(seats <= play.left);
        play.left -= seats;
        play.money += seats * price;
        return play.left;
    }

    private int perform(int show) {
        Play play = play(show);
        state(!play.over);
        state(!play.cast.isEmpty());
        play.over = true;
        for (int puppet : play.cast) {
            Doll doll = dolls.get(puppet);
            doll.worn = Math.min(99, doll.worn + doll.keys.size());
        }
        income += play.money;
        return play.money;
    }

    private int mend(int puppet, int minute) {
        Doll doll = doll(puppet);
        range(minute, 0, 100000);
        state(doll.worn > 0);
        state(doll.timesMended < 10);
        state(isFree(puppet, minute, doll.worn));
        for (int i = 0; i < doll.worn; i++) {
            doll.mended.add(minute + i);
        }
        int minutes = doll.worn;
        doll.worn = 0;
        doll.timesMended++;
        return minutes;
    }

    private int[] where(Doll doll, int frame) {
        if (doll.keys.isEmpty()) {
            return new int[] {doll.bar, 0};
        }
        Integer before = doll.keys.floorKey(frame);
        Integer behind = doll.keys.higherKey(frame);
        if (before == null) {
            return doll.keys.firstEntry().getValue().clone();
        }
        int[] first = doll.keys.get(before);
        if (behind == null) {
            return first.clone();
        }
        int[] second = doll.keys.get(behind);
        int part = TABLES[first[2]][(frame - before) * 8 / (behind - before)];
        return new int[] {first[0] + (second[0] - first[0]) * part / 64, first[1] + (second[1] - first[1]) * part / 64};
    }

    private int track(int puppet, int frame) {
        Doll doll = doll(puppet);
        range(frame, 0, 1999);
        int[] at = where(doll, frame);
        return 1000 * at[0] + at[1];
    }

    private static boolean isTooFar(Doll doll, int[] at) {
        int dx = at[0] - doll.bar;
        return dx * dx + at[1] * at[1] > doll.length * doll.length;
    }

    private static void pull(Doll doll, int[] at) {
        if (!isTooFar(doll, at)) {
            return;
        }
        while (at[0] > doll.bar + doll.length) {
            at[0]--;
        }
        while (at[0] < doll.bar - doll.length) {
            at[0]++;
        }
        at[1] = 0;
        while (!isTooFar(doll, at)) {
            at[1]++;
        }
        at[1]--;
    }

    /** x, y, and 1 if it is bent, by puppet; null for those that are not in the show. */
    private int[][] stage(Play play, int frame) {
        int[][] at = new int[8][];
        for (int puppet : play.cast) {
            Doll doll = dolls.get(puppet);
            int begin = doll.cue < 0 ? 0 : heard[doll.cue];
            int[] own = where(doll, begin < 0 || frame < begin ? 0 : frame - begin);
            pull(doll, own);
            at[puppet] = new int[] {own[0], own[1], 0};
            for (int lower : play.cast.headSet(puppet)) {
                int dx = at[puppet][0] - at[lower][0];
                int dy = at[puppet][1] - at[lower][1];
                if (-10 < dx && dx < 10 && -10 < dy && dy < 10) {
                    at[puppet][0] = at[lower][0] + (dx < 0 ? -10 : 10);
                    at[puppet][2] = 1;
                }
            }
            if (at[puppet][2] == 1) {
                pull(doll, at[puppet]);
            }
        }
        return at;
    }

    private int[] place(int show, int puppet, int frame) {
        Play play = play(show);
        index(play.cast.contains(puppet));
        range(frame, 0, 1999);
        return stage(play, frame)[puppet];
    }

    private int bent(int show, int puppet, int from, int to) {
        Play play = play(show);
        index(play.cast.contains(puppet));
        range(from, 0, 1999);
        range(to, 0, 1999);
        int frames = 0;
        for (int frame = from; frame <= to; frame++) {
            frames += stage(play, frame)[puppet][2];
        }
        return frames;
    }

    private int least(int puppet) {
        Doll asked = doll(puppet);
        Doll tried = new Doll();
        tried.bar = asked.bar;
        for (int frame = 0; frame < 2000; frame++) {
            int[] at = where(asked, frame);
            while (isTooFar(tried, at)) {
                tried.length++;
            }
        }
        return tried.length;
    }

    private boolean isBusy(int puppet, int minute) {
        doll(puppet);
        range(minute, 0, 200000);
        return minutesOf(puppet).contains(minute);
    }
}
