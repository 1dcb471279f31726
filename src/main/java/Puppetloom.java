import java.util.ArrayList;
import java.util.Arrays;
import java.util.NoSuchElementException;

/** Puppets on strings and their shows. */
public final class Puppetloom {
    /** There is none. */
    public static final int NONE = -1;

    private static final int MOST_PUPPETS = 8;
    private static final int MOST_KEYS = 12;
    private static final int MOST_SHOWS = 6;
    private static final int MOST_MENDINGS = 10;
    private static final int SOUNDS = 10;
    private static final int SEATS = 50;

    private static final int MOST_COORDINATE = 999;
    private static final int MOST_LENGTH = 1500;
    private static final int LAST_KEY_FRAME = 999;
    private static final int LAST_FRAME = 1999;
    private static final int LAST_BEGINNING = 100000;
    private static final int LAST_MINUTE = 200000;
    private static final int MOST_MINUTES = 600;
    private static final int MOST_PRICE = 100;
    private static final int MOST_WORN = 99;
    private static final int WORN_OUT = 50;
    private static final int LAST_EASE = 3;
    private static final int DISTANCE = 10;

    private static final int TABLE_PLACES = 8;
    private static final int TABLE_WHOLE = 64;
    // The tables of the eases 0 to 3, one behind the other.
    private static final int[] EASING = {
        0, 8, 16, 24, 32, 40, 48, 56,
        0, 1, 4, 9, 16, 25, 36, 49,
        0, 15, 28, 39, 48, 55, 60, 63,
        0, 0, 0, 0, 0, 0, 0, 0
    };

    private final ArrayList<Puppet> puppets;
    private final ArrayList<Show> shows;
    private final int[] heardAt;
    private int paid;

    public Puppetloom() {
        puppets = new ArrayList<Puppet>();
        shows = new ArrayList<Show>();
        heardAt = new int[SOUNDS];
        Arrays.fill(heardAt, NONE);
        paid = 0;
    }

    // ---- puppets and keys

    public int puppet(int bar, int length) throws IllegalArgumentException, IllegalStateException {
        needWithin(bar, 0, MOST_COORDINATE);
        needWithin(length, 0, MOST_LENGTH);
        if (puppets.size() >= MOST_PUPPETS) {
            throw new IllegalStateException("there are 8 puppets");
        }
        puppets.add(new Puppet(bar, length));
        return puppets.size() - 1;
    }

    public int setLength(int puppet, int length) throws IndexOutOfBoundsException, IllegalArgumentException {
        Puppet changed = puppetNumbered(puppet);
        needWithin(length, 0, MOST_LENGTH);
        int before = changed.length;
        changed.length = length;
        return before;
    }

    public int key(int puppet, int frame, int x, int y, int ease)
            throws IndexOutOfBoundsException, IllegalArgumentException, IllegalStateException {
        Puppet changed = puppetNumbered(puppet);
        needWithin(frame, 0, LAST_KEY_FRAME);
        needWithin(x, 0, MOST_COORDINATE);
        needWithin(y, 0, MOST_COORDINATE);
        needWithin(ease, 0, LAST_EASE);
        if (!changed.hasKeyAt(frame) && changed.keys.size() >= MOST_KEYS) {
            throw new IllegalStateException("the puppet has 12 keys");
        }
        changed.putKey(new Key(frame, x, y, ease));
        return changed.keys.size();
    }

    public int cutKey(int puppet, int frame) throws IndexOutOfBoundsException, NoSuchElementException {
        Puppet changed = puppetNumbered(puppet);
        if (!changed.hasKeyAt(frame)) {
            throw new NoSuchElementException("the puppet has no key at this frame");
        }
        changed.removeKeyAt(frame);
        return changed.keys.size();
    }

    // ---- sounds

    public int hear(int sound, int frame) throws IndexOutOfBoundsException, IllegalArgumentException {
        if (sound < 0 || sound >= heardAt.length) {
            throw new IndexOutOfBoundsException("there is no such sound");
        }
        if (frame != NONE) {
            needWithin(frame, 0, LAST_KEY_FRAME);
        }
        int before = heardAt[sound];
        heardAt[sound] = frame;
        return before;
    }

    public int cue(int puppet, int sound) throws IndexOutOfBoundsException {
        Puppet changed = puppetNumbered(puppet);
        if (sound != NONE && (sound < 0 || sound >= SOUNDS)) {
            throw new IndexOutOfBoundsException("there is no such sound");
        }
        int before = changed.cue;
        changed.cue = sound;
        return before;
    }

    // ---- shows

    public int show(int minute, int minutes) throws IllegalArgumentException, IllegalStateException {
        needWithin(minute, 0, LAST_BEGINNING);
        needWithin(minutes, 1, MOST_MINUTES);
        if (shows.size() >= MOST_SHOWS) {
            throw new IllegalStateException("there are 6 shows");
        }
        shows.add(new Show(new Span(minute, minutes)));
        return shows.size() - 1;
    }

    public int cast(int show, int puppet) throws IndexOutOfBoundsException, IllegalStateException {
        Show changed = showNumbered(show);
        Puppet player = puppetNumbered(puppet);
        if (changed.isPerformed || changed.hasPuppet(puppet)) {
            throw new IllegalStateException("the show is performed or has the puppet");
        }
        if (player.wornJoints >= WORN_OUT || isTaken(player, puppet, changed.span)) {
            throw new IllegalStateException("the puppet is worn or does something else");
        }
        changed.take(puppet);
        return changed.puppetCount;
    }

    public int leave(int show, int puppet) throws IndexOutOfBoundsException, IllegalStateException {
        Show changed = showNumbered(show);
        puppetNumbered(puppet);
        if (changed.isPerformed || !changed.hasPuppet(puppet)) {
            throw new IllegalStateException("the show is performed or has not the puppet");
        }
        changed.release(puppet);
        return changed.puppetCount;
    }

    public int sell(int show, int seats, int price)
            throws IndexOutOfBoundsException, IllegalArgumentException, IllegalStateException {
        Show changed = showNumbered(show);
        needWithin(seats, 1, SEATS);
        needWithin(price, 0, MOST_PRICE);
        if (changed.isPerformed || seats > changed.seatsLeft) {
            throw new IllegalStateException("the show is performed or has not so many seats left");
        }
        changed.seatsLeft -= seats;
        changed.takings += seats * price;
        return changed.seatsLeft;
    }

    public int perform(int show) throws IndexOutOfBoundsException, IllegalStateException {
        Show performed = showNumbered(show);
        if (performed.isPerformed || performed.puppetCount == 0) {
            throw new IllegalStateException("the show is performed or has no puppets");
        }
        performed.isPerformed = true;
        for (int number = 0; number < puppets.size(); number++) {
            if (performed.hasPuppet(number)) {
                puppets.get(number).wear();
            }
        }
        paid += performed.takings;
        return performed.takings;
    }

    public int mend(int puppet, int minute)
            throws IndexOutOfBoundsException, IllegalArgumentException, IllegalStateException {
        Puppet mended = puppetNumbered(puppet);
        needWithin(minute, 0, LAST_BEGINNING);
        if (mended.wornJoints == 0 || mended.mendings.size() >= MOST_MENDINGS) {
            throw new IllegalStateException("the puppet has no worn joints or was mended 10 times");
        }
        Span span = new Span(minute, mended.wornJoints);
        if (isTaken(mended, puppet, span)) {
            throw new IllegalStateException("the puppet does something else");
        }
        mended.mendings.add(span);
        mended.wornJoints = 0;
        return span.minutes;
    }

    // ---- what is asked

    public int track(int puppet, int frame) throws IndexOutOfBoundsException, IllegalArgumentException {
        Puppet asked = puppetNumbered(puppet);
        needWithin(frame, 0, LAST_FRAME);
        asked.standAt(frame);
        return asked.place.together();
    }

    public int trackByFrames(int puppet, int frame) throws IndexOutOfBoundsException, IllegalArgumentException {
        Puppet asked = puppetNumbered(puppet);
        needWithin(frame, 0, LAST_FRAME);
        asked.walkTo(frame);
        return asked.place.together();
    }

    public int x(int show, int puppet, int frame) throws IndexOutOfBoundsException, IllegalArgumentException {
        Show asked = showWith(show, puppet);
        needWithin(frame, 0, LAST_FRAME);
        return settled(asked, puppet, frame).place.x;
    }

    public int y(int show, int puppet, int frame) throws IndexOutOfBoundsException, IllegalArgumentException {
        Show asked = showWith(show, puppet);
        needWithin(frame, 0, LAST_FRAME);
        return settled(asked, puppet, frame).place.y;
    }

    public int bent(int show, int puppet, int from, int to)
            throws IndexOutOfBoundsException, IllegalArgumentException {
        Show asked = showWith(show, puppet);
        needWithin(from, 0, LAST_FRAME);
        needWithin(to, 0, LAST_FRAME);
        int frames = 0;
        for (int frame = from; frame <= to; frame++) {
            if (settled(asked, puppet, frame).isMoved) {
                frames++;
            }
        }
        return frames;
    }

    public int least(int puppet) throws IndexOutOfBoundsException {
        return puppetNumbered(puppet).leastLength();
    }

    public boolean isBusy(int puppet, int minute) throws IndexOutOfBoundsException, IllegalArgumentException {
        Puppet asked = puppetNumbered(puppet);
        needWithin(minute, 0, LAST_MINUTE);
        return isTaken(asked, puppet, new Span(minute, 1));
    }

    public int worn(int puppet) throws IndexOutOfBoundsException {
        return puppetNumbered(puppet).wornJoints;
    }

    public int income() {
        return paid;
    }

    // ---- what the calls share

    private static void needWithin(int value, int least, int most) {
        if (value < least || value > most) {
            throw new IllegalArgumentException("a number is out of range");
        }
    }

    private Puppet puppetNumbered(int number) {
        if (number < 0 || number >= puppets.size()) {
            throw new IndexOutOfBoundsException("there is no such puppet");
        }
        return puppets.get(number);
    }

    private Show showNumbered(int number) {
        if (number < 0 || number >= shows.size()) {
            throw new IndexOutOfBoundsException("there is no such show");
        }
        return shows.get(number);
    }

    private Show showWith(int number, int puppet) {
        Show found = showNumbered(number);
        if (!found.hasPuppet(puppet)) {
            throw new IndexOutOfBoundsException("the show has not the puppet");
        }
        return found;
    }

    private boolean isTaken(Puppet puppet, int number, Span span) {
        for (int i = 0; i < shows.size(); i++) {
            Show other = shows.get(i);
            if (other.hasPuppet(number) && other.span.meets(span)) {
                return true;
            }
        }
        return puppet.isMendedDuring(span);
    }

    private int ownFrame(Puppet puppet, int frame) {
        if (puppet.cue < 0 || puppet.cue >= heardAt.length) {
            return frame;
        }
        int begin = heardAt[puppet.cue];
        return begin == NONE ? 0 : Math.max(0, frame - begin);
    }

    // Puppets above the one that is asked are left out: they never move a lower one.
    private Puppet settled(Show show, int asked, int frame) {
        Puppet last = puppetNumbered(asked);
        for (int number = 0; number <= asked && number < puppets.size(); number++) {
            if (show.hasPuppet(number)) {
                Puppet puppet = puppets.get(number);
                puppet.standAt(ownFrame(puppet, frame));
                puppet.pull();
                keepOffLower(show, puppet, number);
            }
        }
        return last;
    }

    private void keepOffLower(Show show, Puppet puppet, int number) {
        puppet.isMoved = false;
        for (int lower = 0; lower < number && lower < puppets.size(); lower++) {
            if (show.hasPuppet(lower)) {
                puppet.keepOff(puppets.get(lower).place);
            }
        }
        if (puppet.isMoved) {
            puppet.pull();
        }
    }

    private static int rootBelow(int square) {
        int root = 0;
        for (int bit = 1024; bit > 0; bit /= 2) {
            int tried = root + bit;
            if (tried * tried <= square) {
                root = tried;
            }
        }
        return root;
    }

    private static int easing(int ease, int place) {
        int index = ease * TABLE_PLACES + place;
        return index < 0 || index >= EASING.length ? 0 : EASING[index];
    }

    private static final class Span {
        final int minute;
        final int minutes;

        Span(int minute, int minutes) {
            this.minute = minute;
            this.minutes = minutes;
        }

        boolean meets(Span other) {
            return minute < other.minute + other.minutes && other.minute < minute + minutes;
        }
    }

    private static final class Key {
        final int frame;
        final int x;
        final int y;
        final int ease;

        Key(int frame, int x, int y, int ease) {
            this.frame = frame;
            this.x = x;
            this.y = y;
            this.ease = ease;
        }
    }

    private static final class Place {
        int x;
        int y;

        int together() {
            return 1000 * x + y;
        }

        void putAt(Key key) {
            x = key.x;
            y = key.y;
        }

        void putBetween(Key first, Key second, int frame) {
            int frames = second.frame - first.frame;
            int gone = frame - first.frame;
            int share = frames > 0 ? easing(first.ease, gone * TABLE_PLACES / frames) : 0;
            // The difference is divided by itself: rounding the sum would go the other way on falling tracks.
            x = first.x + (second.x - first.x) * share / TABLE_WHOLE;
            y = first.y + (second.y - first.y) * share / TABLE_WHOLE;
        }
    }

    private static final class Puppet {
        final int bar;
        int length;
        // By rising frames, so that the keys on both sides of a frame are neighbours.
        final ArrayList<Key> keys;
        int cue;
        int wornJoints;
        final ArrayList<Span> mendings;
        // Where it stands for the question of this moment; written anew by each one.
        final Place place;
        boolean isMoved;

        Puppet(int bar, int length) {
            this.bar = bar;
            this.length = length;
            keys = new ArrayList<Key>();
            cue = NONE;
            wornJoints = 0;
            mendings = new ArrayList<Span>();
            place = new Place();
            isMoved = false;
        }

        int keysAhead(int frame) {
            int count = 0;
            while (count < keys.size() && keys.get(count).frame < frame) {
                count++;
            }
            return count;
        }

        boolean hasKeyAt(int frame) {
            int index = keysAhead(frame);
            return index < keys.size() && keys.get(index).frame == frame;
        }

        void putKey(Key key) {
            int index = keysAhead(key.frame);
            if (index < keys.size() && keys.get(index).frame == key.frame) {
                keys.set(index, key);
            } else {
                keys.add(index, key);
            }
        }

        void removeKeyAt(int frame) {
            int index = keysAhead(frame);
            if (index < keys.size() && keys.get(index).frame == frame) {
                keys.remove(index);
            }
        }

        void standAt(int frame) {
            standBehind(keysAhead(frame + 1), frame);
        }

        void walkTo(int frame) {
            int passed = 0;
            for (int now = 0; now <= frame; now++) {
                if (passed < keys.size() && keys.get(passed).frame == now) {
                    passed++;
                }
                standBehind(passed, now);
            }
        }

        void standBehind(int passed, int frame) {
            int count = keys.size();
            if (count == 0) {
                place.x = bar;
                place.y = 0;
            } else if (passed <= 0) {
                place.putAt(keys.get(0));
            } else if (passed >= count) {
                place.putAt(keys.get(count - 1));
            } else {
                place.putBetween(keys.get(passed - 1), keys.get(passed), frame);
            }
        }

        int squareFromBar() {
            int away = place.x - bar;
            return away * away + place.y * place.y;
        }

        void pull() {
            int square = length * length;
            if (squareFromBar() <= square) {
                return;
            }
            int away = Math.max(-length, Math.min(length, place.x - bar));
            place.x = bar + away;
            place.y = rootBelow(square - away * away);
        }

        void keepOff(Place lower) {
            if (Math.abs(place.x - lower.x) >= DISTANCE || Math.abs(place.y - lower.y) >= DISTANCE) {
                return;
            }
            place.x = place.x < lower.x ? lower.x - DISTANCE : lower.x + DISTANCE;
            isMoved = true;
        }

        int leastLength() {
            int farthest = 0;
            // Behind the last frame that can have a key no puppet goes anywhere. Frames between
            // keys count too: rounding can put them farther out than both keys.
            for (int frame = 0; frame <= LAST_KEY_FRAME; frame++) {
                standAt(frame);
                farthest = Math.max(farthest, squareFromBar());
            }
            int root = rootBelow(farthest);
            return root * root < farthest ? root + 1 : root;
        }

        void wear() {
            wornJoints = Math.min(MOST_WORN, wornJoints + keys.size());
        }

        boolean isMendedDuring(Span span) {
            for (int i = 0; i < mendings.size(); i++) {
                if (mendings.get(i).meets(span)) {
                    return true;
                }
            }
            return false;
        }
    }

    private static final class Show {
        final Span span;
        final boolean[] hasPuppets;
        int puppetCount;
        int seatsLeft;
        int takings;
        boolean isPerformed;

        Show(Span span) {
            this.span = span;
            hasPuppets = new boolean[MOST_PUPPETS];
            puppetCount = 0;
            seatsLeft = SEATS;
            takings = 0;
            isPerformed = false;
        }

        boolean hasPuppet(int number) {
            return number >= 0 && number < hasPuppets.length && hasPuppets[number];
        }

        void take(int number) {
            if (number >= 0 && number < hasPuppets.length && !hasPuppets[number]) {
                hasPuppets[number] = true;
                puppetCount++;
            }
        }

        void release(int number) {
            if (number >= 0 && number < hasPuppets.length && hasPuppets[number]) {
                hasPuppets[number] = false;
                puppetCount--;
            }
        }
    }
}
