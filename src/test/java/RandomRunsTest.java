import java.util.Arrays;
import java.util.Random;

/** Long runs of calls of the whole face, drawn by fixed seeds, against the model. */
final class RandomRunsTest {
    private static final int RUNS = 400;
    private static final int CALLS = 512;
    private static final int[] WHOLES = {1, 2, 3, 4, 7, 8, 9, 10, 11, 16, 99, 100, 999, 1000, 1001, 4095, 4096, 4097,
        9999, 10000, 32768, 65521, 65535, 65536};
    private static final int[] POWERS = {-1000, -999, -500, -12, -11, -10, -9, -4, -3, -2, -1, 0, 1, 2, 3, 16, 17, 256,
        500, 999, 1000};
    /** Wrong for most arguments. */
    private static final int[] WILD = {0, -1, 1, 4, 5, 8, 10, 16, 18, 101, 65537, 1001, -1001, -2147483648, 2147483647};

    private RandomRunsTest() {
    }

    public static void main(String[] args) {
        for (int run = 0; run < RUNS; run++) {
            play(run);
        }
        Check.end();
    }

    private static void play(int run) {
        Random random = new Random(run);
        Factorweights program = new Factorweights();
        Model model = new Model();
        int wildness = run % 4 == 0 ? 12 : 60;
        for (int call = 0; call < CALLS; call++) {
            Face.Entry entry = Face.ENTRIES.get(random.nextInt(Face.ENTRIES.size()));
            Object[] arguments = draw(random, entry, wildness);
            Object got = Face.call(program, entry.name(), arguments);
            Object due = Face.call(model, entry.name(), arguments);
            Check.due("run " + run + ", call " + call + ": " + entry.name() + Arrays.toString(arguments), got, due);
            if (!due.equals(got)) {
                return;
            }
        }
    }

    private static Object[] draw(Random random, Face.Entry entry, int wildness) {
        int[] values = new int[entry.kinds().size()];
        for (int at = 0; at < values.length; at++) {
            boolean isWild = random.nextInt(wildness) == 0;
            values[at] = isWild ? WILD[random.nextInt(WILD.length)] : drawLet(random, entry.kinds().get(at));
        }
        return entry.arguments(values);
    }

    private static int drawLet(Random random, Face.Kind kind) {
        if (kind == Face.Kind.WHOLE && random.nextBoolean()) {
            return WHOLES[random.nextInt(WHOLES.length)];
        }
        if (kind == Face.Kind.POWER && random.nextBoolean()) {
            return POWERS[random.nextInt(POWERS.length)];
        }
        if (kind == Face.Kind.WHOLE) {
            // Small ones more often, so that more products stay in the SET.
            return 1 + random.nextInt(65536 >> random.nextInt(16));
        }
        if (kind == Face.Kind.AT && random.nextBoolean()) {
            return random.nextInt(4);
        }
        return kind.least + random.nextInt(kind.greatest - kind.least + 1);
    }
}
