import java.util.Arrays;
import java.util.Random;

/** All promises: long runs of calls, by fixed seeds, answered as the model answers; wild arguments among them. */
public final class ModelTest {
    private static final int[] WILD = {Integer.MIN_VALUE, -2, -1, 0, 1, 5, 7, 8, 9, 10, 12, 50, 51, 99, 100, 101, 600,
        601, 999, 1000, 1500, 1501, 1999, 2000, 100000, 100001, 200000, 200001, 65536, Integer.MAX_VALUE};
    // How often each call comes: more of what builds up, and of what is asked of a show.
    private static final int[] WEIGHTS = {3, 3, 16, 2, 3, 3, 2, 7, 1, 2, 1, 4, 6, 3, 10, 10, 1, 3, 6, 3, 1};

    private final Random random;
    // A small stage has many collisions, a great one long strings.
    private final int width;
    private final int minutes;

    private ModelTest(int seed) {
        random = new Random(seed);
        width = new int[] {12, 40, 200, 1000}[seed % 4];
        minutes = new int[] {30, 300, 2000}[seed % 3];
    }

    public static void main(String[] args) {
        for (int seed = 0; seed < 400; seed++) {
            new ModelTest(seed).run(seed);
        }
        Check.end("ModelTest");
    }

    private void run(int seed) {
        Puppetloom loom = new Puppetloom();
        Model model = new Model();
        for (int i = 0; i < 512; i++) {
            int call = drawCall();
            int[] a = random.nextInt(25) == 0 ? wildArguments() : arguments(call);
            Check.same("seed " + seed + ", call " + i + ": " + Calls.NAMES[call] + Arrays.toString(a),
                Calls.outcome(loom, call, a), Calls.outcome(() -> model.answer(call, a)));
        }
    }

    private int drawCall() {
        int drawn = random.nextInt(Arrays.stream(WEIGHTS).sum());
        int call = 0;
        while (drawn >= WEIGHTS[call]) {
            drawn -= WEIGHTS[call];
            call++;
        }
        return call;
    }

    private int[] wildArguments() {
        int[] a = new int[5];
        for (int i = 0; i < a.length; i++) {
            a[i] = random.nextInt(3) == 0 ? random.nextInt(3) : WILD[random.nextInt(WILD.length)];
        }
        return a;
    }

    private int below(int bound) {
        return random.nextInt(bound);
    }

    private int[] arguments(int call) {
        int puppet = below(8);
        int show = below(6);
        int frame = below(4) == 0 ? below(2000) : below(60);
        switch (call) {
            case 0: return new int[] {below(width), below(3) == 0 ? 1500 : below(width + 20)};
            case 1: return new int[] {puppet, below(3) == 0 ? below(1501) : below(width + 20)};
            case 2: return new int[] {puppet, below(8) == 0 ? below(1000) : below(50), below(width), below(width), below(4)};
            case 3: return new int[] {puppet, below(50)};
            case 4: return new int[] {below(10), below(5) == 0 ? -1 : below(40)};
            case 5: return new int[] {puppet, below(3) == 0 ? below(10) : -1};
            case 6: return new int[] {below(minutes), 1 + below(20)};
            case 9: return new int[] {show, 1 + below(20), below(101)};
            case 11: case 18: return new int[] {puppet, below(minutes)};
            case 7: case 8: return new int[] {show, puppet};
            case 10: return new int[] {show};
            case 14: case 15: return new int[] {show, puppet, frame};
            case 16: return new int[] {show, puppet, below(100), below(3) == 0 ? below(2000) : below(100)};
            default: return new int[] {puppet, frame};
        }
    }
}
