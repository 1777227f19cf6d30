import java.util.ArrayList;
import java.util.List;

/**
 * Each sentence "Throws ... if ... is not ..." of the promises 2 to 52: every argument one too small, one too
 * large, and as far off as an int goes, alone and together with the others. The exception is just the one that
 * is due for the first wrong argument, it goes ahead of -9, and nothing is changed. At the edges nothing is thrown.
 */
final class RefusedCallsTest {
    /** Each of them tells -9 where it can. */
    private static final String[][] STATES = {
        {},
        {"putPower 0 -1", "putPower 7 17", "putWhole 1 65536", "heapPrimes 3 1", "heapPrimes 0 1", "answer 0 0 0",
            "answer 7 1 7", "knock", "heapTake 1"},
    };

    private RefusedCallsTest() {
    }

    public static void main(String[] args) {
        for (Face.Entry entry : Face.ENTRIES) {
            for (String[] state : STATES) {
                tryAll(entry, state);
            }
        }
        Check.end();
    }

    private static void tryAll(Face.Entry entry, String[] state) {
        List<int[]> tried = new ArrayList<>();
        for (Face.Kind kind : entry.kinds()) {
            tried.add(kind == Face.Kind.FLAG ? kind.tried : aroundEdges(kind));
        }
        for (int[] row : Face.rows(tried)) {
            tryRow(entry, row, state);
        }
    }

    private static int[] aroundEdges(Face.Kind kind) {
        return new int[] {kind.least, kind.greatest, kind.least - 1, kind.greatest + 1, Integer.MIN_VALUE, Integer.MAX_VALUE};
    }

    private static void tryRow(Face.Entry entry, int[] row, String[] state) {
        Factorweights on = new Factorweights();
        for (String call : state) {
            Face.play(on, call);
        }
        String before = Given.state(on);
        Object[] arguments = entry.arguments(row);
        Object got = Face.call(on, entry.name(), arguments);
        Class<?> due = thrownFor(entry, row);
        String told = entry.name() + java.util.Arrays.toString(arguments) + " after " + String.join(", ", state);
        if (due == null) {
            Check.due(told + " throws", got instanceof Class, false);
            return;
        }
        Check.due(told, got, due);
        Check.due(told + " leaves", Given.state(on), before);
    }

    private static Class<?> thrownFor(Face.Entry entry, int[] row) {
        for (int at = 0; at < row.length; at++) {
            if (!entry.kinds().get(at).lets(row[at])) {
                return entry.kinds().get(at).thrown;
            }
        }
        return null;
    }
}
