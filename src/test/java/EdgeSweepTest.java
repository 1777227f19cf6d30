import java.util.ArrayList;
import java.util.Arrays;
import java.util.List;

/**
 * Every method, with every let row of arguments at the edges, on objects whose cells and HEAPS stand at the edges
 * (empty and full, the least and the greatest NUMBER, PRODUCTS that are just APART or just not), against the model:
 * the answer, and all that the object holds then. What only asks leaves all but the count of -9s.
 */
final class EdgeSweepTest {
    static final String[][] STATES = {
        {},
        {"putWhole 1 65536", "putWhole 2 65535", "putPower 3 17", "putPower 4 -1", "putPower 5 1000", "putPower 6 -1000",
            "putWhole 7 3", "answer 1 0 1", "answer 1 1 2", "answer 4 0 3", "answer 5 0 4", "answer 6 0 5", "answer 6 1 6",
            "answer 0 1 7", "heapPrimes 0 1", "heapAdd 2 0", "heapAdd 3 1", "heapAdd 3 1", "heapAdd 3 2"},
        {"putWhole 0 10", "answer 0 1 0", "putWhole 0 10000", "answer 0 1 1", "answer 0 0 2", "putWhole 0 9999",
            "answer 0 1 3", "putWhole 0 20328", "answer 0 0 4", "putWhole 0 42", "answer 0 0 5", "putWhole 0 5466",
            "answer 0 1 6", "answer 0 1 7", "putWhole 0 2", "putWhole 1 4096", "putWhole 2 4097", "putWhole 3 256",
            "putWhole 4 257", "putWhole 5 32768", "putWhole 6 32769", "putWhole 7 10000", "heapAdd 0 7", "heapAdd 0 7",
            "heapAdd 1 7", "heapAdd 1 2", "heapPrimes 2 7", "heapAdd 3 3"},
        {"putWhole 7 9", "heapAdd 0 7", "putWhole 7 49", "heapAdd 0 7", "putWhole 7 43", "heapAdd 0 7", "putWhole 7 127",
            "heapAdd 0 7", "putWhole 7 337", "heapAdd 0 7", "putWhole 7 5419", "heapAdd 0 7", "putWhole 7 65536",
            "heapAdd 1 7", "heapAdd 1 7", "putWhole 7 1024", "heapAdd 1 7", "putPower 0 42", "putPower 1 -2", "putPower 2 -3",
            "putWhole 3 6", "putWhole 4 4", "putPower 5 500", "putPower 6 501", "answer 1 0 0", "answer 1 0 1",
            "answer 2 0 6", "answer 0 0 7", "knock", "up 0", "heapTake 3"},
    };
    private static final List<String> ACTS = List.of("putWhole", "putPower", "putCopy", "times", "over", "up", "numberSort",
        "answer", "answerMax", "answerMin", "answerSort", "answerEnd", "heapAdd", "heapTake", "heapPrimes", "heapClear",
        "heapCopy", "knock");

    private EdgeSweepTest() {
    }

    public static void main(String[] args) {
        for (String[] state : STATES) {
            for (Face.Entry entry : Face.ENTRIES) {
                sweep(entry, state);
            }
        }
        Check.end();
    }

    private static void sweep(Face.Entry entry, String[] state) {
        List<int[]> tried = new ArrayList<>();
        for (Face.Kind kind : entry.kinds()) {
            tried.add(kind.tried);
        }
        for (int[] row : Face.rows(tried)) {
            tryRow(entry, row, state);
        }
    }

    private static void tryRow(Face.Entry entry, int[] row, String[] state) {
        Factorweights program = new Factorweights();
        Model model = new Model();
        for (String call : state) {
            Check.due(call, Face.play(program, call), Face.play(model, call));
        }
        String before = Given.state(program);
        Object[] arguments = entry.arguments(row);
        String told = entry.name() + Arrays.toString(arguments) + " after " + String.join(", ", state);
        Check.due(told, Face.call(program, entry.name(), arguments), Face.call(model, entry.name(), arguments));
        String after = Given.state(program);
        Check.due(told + " leaves", after, Given.state(model));
        if (!ACTS.contains(entry.name())) {
            Check.due(told + " changes nothing", withoutCounts(after), withoutCounts(before));
        }
    }

    private static String withoutCounts(String state) {
        return state.substring(0, state.lastIndexOf(','));
    }
}
