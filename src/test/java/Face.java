import java.lang.reflect.InvocationTargetException;
import java.lang.reflect.Method;
import java.util.ArrayList;
import java.util.Arrays;
import java.util.HashMap;
import java.util.List;
import java.util.Map;

/** The document's face as a table: each method with what its arguments may be, in the order of the promises. */
final class Face {
    /** What an argument may be, and what a call with another one throws. */
    enum Kind {
        CELL(0, 7, IndexOutOfBoundsException.class, 0, 1, 2, 3, 4, 5, 6, 7),
        HEAP(0, 3, IndexOutOfBoundsException.class, 0, 1, 2, 3),
        AT(0, 15, IndexOutOfBoundsException.class, 0, 1, 2, 14, 15),
        WHOLE(1, 65536, IllegalArgumentException.class, 1, 2, 65535, 65536),
        POWER(-1000, 1000, IllegalArgumentException.class, -1000, -1, 0, 16, 17, 1000),
        PLACES(0, 9, IllegalArgumentException.class, 0, 1, 8, 9),
        HOW(0, 1, IllegalArgumentException.class, 0, 1),
        BASE(2, 17, IllegalArgumentException.class, 2, 3, 10, 16, 17),
        COUNT(0, 100, IllegalArgumentException.class, 0, 1, 2, 99, 100),
        WHAT(0, 4, IllegalArgumentException.class, 0, 1, 2, 3, 4),
        FLAG(0, 1, null, 0, 1);

        final int least;
        final int greatest;
        final Class<? extends RuntimeException> thrown;
        /** Let ones, those at the edges among them. */
        final int[] tried;

        Kind(int least, int greatest, Class<? extends RuntimeException> thrown, int... tried) {
            this.least = least;
            this.greatest = greatest;
            this.thrown = thrown;
            this.tried = tried;
        }

        boolean lets(int value) {
            return value >= least && value <= greatest;
        }
    }

    record Entry(String answer, String name, List<Kind> kinds) {
        Class<?>[] types() {
            Class<?>[] types = new Class<?>[kinds.size()];
            for (int at = 0; at < types.length; at++) {
                types[at] = kinds.get(at) == Kind.FLAG ? boolean.class : int.class;
            }
            return types;
        }

        Object[] arguments(int... values) {
            Object[] arguments = new Object[values.length];
            for (int at = 0; at < values.length; at++) {
                arguments[at] = kinds.get(at) == Kind.FLAG ? (Object) (values[at] == 1) : values[at];
            }
            return arguments;
        }
    }

    private static final String TABLE = """
        int putWhole CELL WHOLE
        int putPower CELL POWER
        int putCopy CELL CELL
        int times CELL CELL CELL
        int over CELL CELL CELL
        int up CELL
        int numberSort
        int wholeOf CELL
        int powerOf CELL
        int numberUpper CELL
        String numberText CELL
        int answer CELL FLAG CELL
        int answerMax CELL CELL CELL
        int answerMin CELL CELL CELL
        int answerSort
        int answerEnd FLAG CELL
        int answerUpper CELL
        String answerText CELL
        int answerFloor CELL
        int answerPlaces CELL PLACES
        int answerWhole CELL
        int answerOrder CELL CELL HOW
        boolean answerLike CELL CELL
        boolean answerBelow CELL CELL FLAG
        int answerFind CELL FLAG
        int digits CELL
        int binaryDigits CELL
        int powerByLogs CELL
        int digitsIn CELL BASE
        int quotient CELL BASE
        boolean isTenth CELL
        int mirror CELL
        int step CELL FLAG
        int stepSound CELL
        String primes CELL
        int primesNear CELL FLAG
        int pairNear CELL CELL FLAG
        int factorialDigits COUNT FLAG
        int heapAdd HEAP CELL
        int heapTake HEAP
        int heapPrimes HEAP CELL
        int heapClear HEAP
        int heapCopy HEAP HEAP
        int heapSize HEAP
        int heapAt HEAP AT
        String heapProduct HEAP
        int heapOrder HEAP HEAP FLAG
        int heapAgainst HEAP CELL FLAG
        int heapDigits HEAP
        int heapBinaryDigits HEAP
        int house WHAT
        int knock
        boolean isSound
        long digest
        """;

    static final List<Entry> ENTRIES = read();
    private static final Map<String, Method> METHODS = new HashMap<>();

    private Face() {
    }

    private static List<Entry> read() {
        List<Entry> entries = new ArrayList<>();
        for (String row : TABLE.split("\n")) {
            String[] words = row.split(" ");
            List<Kind> kinds = new ArrayList<>();
            for (int at = 2; at < words.length; at++) {
                kinds.add(Kind.valueOf(words[at]));
            }
            entries.add(new Entry(words[0], words[1], kinds));
        }
        return entries;
    }

    static Entry entry(String name) {
        for (Entry entry : ENTRIES) {
            if (entry.name().equals(name)) {
                return entry;
            }
        }
        throw new AssertionError(name);
    }

    /** Calls the face's method of the program or of the model; a call that throws answers the class of what it throws. */
    static Object call(Object on, String name, Object... arguments) {
        try {
            return method(on.getClass(), name).invoke(on, arguments);
        } catch (InvocationTargetException thrown) {
            return thrown.getCause().getClass();
        } catch (ReflectiveOperationException wrong) {
            throw new AssertionError(wrong);
        }
    }

    private static Method method(Class<?> type, String name) throws ReflectiveOperationException {
        String key = type.getName() + '.' + name;
        Method method = METHODS.get(key);
        if (method == null) {
            method = type.getDeclaredMethod(name, entry(name).types());
            METHODS.put(key, method);
        }
        return method;
    }

    /** Calls what a row like "times 0 1 2" tells. */
    static Object play(Object on, String row) {
        String[] words = row.split(" ");
        int[] values = new int[words.length - 1];
        for (int at = 0; at < values.length; at++) {
            values[at] = Integer.parseInt(words[at + 1]);
        }
        return call(on, words[0], entry(words[0]).arguments(values));
    }

    /** Every row of arguments that has one of the tried values at each place. */
    static List<int[]> rows(List<int[]> tried) {
        List<int[]> rows = new ArrayList<>();
        rows.add(new int[0]);
        for (int[] values : tried) {
            List<int[]> longer = new ArrayList<>();
            for (int[] row : rows) {
                for (int value : values) {
                    int[] next = Arrays.copyOf(row, row.length + 1);
                    next[row.length] = value;
                    longer.add(next);
                }
            }
            rows = longer;
        }
        return rows;
    }
}
