/**
 * Objects in a state to be tested, and what they hold, as short texts: "42" or "2^-3" is a NUMBER (as a text that is
 * told a POWER is always "2^k"), "LN 42" or "LG 2^-3" an ANSWER.
 */
final class Given {
    static final int NO_POWER = -2147483648;

    private Given() {
    }

    static Factorweights numbers(String... numbers) {
        Factorweights on = new Factorweights();
        for (int cell = 0; cell < numbers.length; cell++) {
            put(on, cell, numbers[cell]);
        }
        return on;
    }

    static int put(Factorweights on, int cell, String number) {
        if (number.startsWith("2^")) {
            return on.putPower(cell, Integer.parseInt(number.substring(2)));
        }
        return on.putWhole(cell, Integer.parseInt(number));
    }

    static String number(Factorweights on, int cell) {
        int k = on.powerOf(cell);
        return k == NO_POWER ? String.valueOf(on.wholeOf(cell)) : "2^" + k;
    }

    static Factorweights answers(String... answers) {
        Factorweights on = new Factorweights();
        for (int cell = 0; cell < answers.length; cell++) {
            answer(on, cell, answers[cell]);
        }
        return on;
    }

    /** The NUMBER of the ANSWER comes to the NUMBER cell 7. */
    static int answer(Factorweights on, int into, String answer) {
        put(on, 7, answer.substring(3));
        return on.answer(7, answer.startsWith("LG "), into);
    }

    /** An object whose HEAP 0 has these FACTORS, and the HEAP 1 and so on those of the next rows. */
    static Factorweights heaps(int[]... heaps) {
        Factorweights on = new Factorweights();
        for (int heap = 0; heap < heaps.length; heap++) {
            fill(on, heap, heaps[heap]);
        }
        return on;
    }

    /** The FACTORS go by the NUMBER cell 7. */
    static void fill(Factorweights on, int heap, int... factors) {
        on.heapClear(heap);
        for (int factor : factors) {
            on.putWhole(7, factor);
            on.heapAdd(heap, 7);
        }
    }

    static int[] row(int... factors) {
        return factors;
    }

    static int[] times(int count, int factor) {
        int[] row = new int[count];
        java.util.Arrays.fill(row, factor);
        return row;
    }

    /** All that an object, or the model, holds; what is asked for it tells no -9 that is counted. */
    static String state(Object on) {
        StringBuilder text = new StringBuilder();
        for (int cell = 0; cell < 8; cell++) {
            text.append(Face.call(on, "numberText", cell)).append(", ");
        }
        for (int cell = 0; cell < 8; cell++) {
            text.append(Face.call(on, "answerText", cell)).append(' ').append(Face.call(on, "answerFloor", cell));
            text.append(' ').append(Face.call(on, "answerPlaces", cell, 9)).append(", ");
        }
        for (int heap = 0; heap < 4; heap++) {
            int size = (int) Face.call(on, "heapSize", heap);
            for (int at = 0; at < size; at++) {
                text.append(Face.call(on, "heapAt", heap, at)).append('*');
            }
            text.append(size).append(", ");
        }
        return text.append(counts(on)).toString();
    }

    /** house() of 0 to 4. */
    static String counts(Object on) {
        StringBuilder text = new StringBuilder();
        for (int what = 0; what < 5; what++) {
            text.append(what > 0 ? " " : "").append(Face.call(on, "house", what));
        }
        return text.toString();
    }
}
