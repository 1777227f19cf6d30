/**
 * Eight NUMBER cells, eight ANSWER cells and four HEAPS of factors, as the document tells them.
 *
 * <p>A NUMBER is held as one int that grows with its value (see {@link Numbers}), an ANSWER as the
 * exact area behind it, so near that every answer that is told is that of the exact one.
 */
public final class Factorweights {
    private static final int CELLS = 8;
    private static final int HEAPS = 4;
    private static final int HEAP_ROOM = 16;

    private static final int NOTHING = -9;
    private static final String NOTHING_TEXT = "-9";

    private static final int GREATEST_QUOTIENT = 4096;
    private static final int GREATEST_BASE = 17;
    private static final int GREATEST_FACTORIAL = 100;
    private static final int GREATEST_PLACES = 9;

    /** Two steps of it are 2^40: two numbers that are nearer by that are not APART. */
    private static final int HALF_OF_APART = 1 << 20;

    private static final int NUMBER_ACTS = 0;
    private static final int ANSWER_ACTS = 1;
    private static final int HEAP_ACTS = 2;
    private static final int NOTHINGS = 3;
    private static final int KNOCKS = 4;
    private static final int COUNTS = 5;

    private final int[] numbers = new int[CELLS];
    private final Answer[] answers = new Answer[CELLS];
    private final int[] factors = new int[HEAPS * HEAP_ROOM];
    private final int[] sizes = new int[HEAPS];
    private final int[] counts = new int[COUNTS];

    // Rows that calls use again, so that a call makes next to nothing of its own.
    private final Areas areas = new Areas();
    private final int[] primeRow = new int[HEAP_ROOM];
    private final int[] numbersBefore = new int[CELLS];
    private final Answer[] answersBefore = new Answer[CELLS];
    private final Natural product = new Natural();
    private final Natural otherProduct = new Natural();
    private final Natural line = new Natural();
    private final Natural gap = new Natural();

    public Factorweights() {
        Answer zero = new Answer(1, false, 0, 0);
        for (int cell = 0; cell < CELLS; cell++) {
            numbers[cell] = 1;
            answers[cell] = zero;
            answersBefore[cell] = zero;
        }
    }

    // ---- NUMBER cells

    public int putWhole(int cell, int n) throws IndexOutOfBoundsException, IllegalArgumentException {
        checkCell(cell);
        if (n < 1 || n > Numbers.GREATEST_WHOLE) {
            throw new IllegalArgumentException("n is not 1 to 65536");
        }
        return putNumber(cell, n);
    }

    public int putPower(int cell, int k) throws IndexOutOfBoundsException, IllegalArgumentException {
        checkCell(cell);
        if (k < -Numbers.GREATEST_POWER || k > Numbers.GREATEST_POWER) {
            throw new IllegalArgumentException("k is not -1000 to 1000");
        }
        return putNumber(cell, Numbers.ofPower(k));
    }

    public int putCopy(int cell, int into) throws IndexOutOfBoundsException {
        checkCell(cell);
        checkCell(into);
        return putNumber(into, numbers[cell]);
    }

    public int times(int one, int other, int into) throws IndexOutOfBoundsException {
        checkCell(one);
        checkCell(other);
        checkCell(into);
        return putIfInSet(into, Numbers.productOf(numbers[one], numbers[other]));
    }

    public int over(int one, int other, int into) throws IndexOutOfBoundsException {
        checkCell(one);
        checkCell(other);
        checkCell(into);
        return putIfInSet(into, Numbers.quotientOf(numbers[one], numbers[other]));
    }

    public int up(int cell) throws IndexOutOfBoundsException {
        checkCell(cell);
        int number = numbers[cell];
        if (!Numbers.isWhole(number) || number == Numbers.GREATEST_WHOLE) {
            return tellNothing();
        }
        putNumber(cell, number + 1);
        return number + 1;
    }

    public int numberSort() {
        System.arraycopy(numbers, 0, numbersBefore, 0, CELLS);
        for (int from = 1; from < CELLS; from++) {
            int moved = numbers[from];
            int at = from;
            while (at > 0 && numbers[at - 1] > moved) {
                numbers[at] = numbers[at - 1];
                at--;
            }
            numbers[at] = moved;
        }
        int changed = 0;
        for (int cell = 0; cell < CELLS; cell++) {
            changed += numbers[cell] == numbersBefore[cell] ? 0 : 1;
        }
        counts[NUMBER_ACTS]++;
        return changed;
    }

    public int wholeOf(int cell) throws IndexOutOfBoundsException {
        checkCell(cell);
        return Numbers.isWhole(numbers[cell]) ? numbers[cell] : tellNothing();
    }

    public int powerOf(int cell) throws IndexOutOfBoundsException {
        checkCell(cell);
        return Numbers.powerIn(numbers[cell]);
    }

    public int numberUpper(int cell) throws IndexOutOfBoundsException {
        checkCell(cell);
        return Numbers.upper(numbers[cell]);
    }

    public String numberText(int cell) throws IndexOutOfBoundsException {
        checkCell(cell);
        // FRACTION has up to 52 binary digits, more than a text takes as an int.
        product.set(Numbers.fraction(numbers[cell]));
        StringBuilder text = new StringBuilder();
        text.append("0 ").append(Numbers.exponent(numbers[cell])).append(' ').append(product.takeText());
        return text.toString();
    }

    // ---- ANSWER cells

    public int answer(int cell, boolean isTen, int into) throws IndexOutOfBoundsException {
        checkCell(cell);
        checkCell(into);
        return putAnswer(into, areas.answerAt(numbers[cell], isTen));
    }

    public int answerMax(int one, int other, int into) throws IndexOutOfBoundsException {
        checkCell(one);
        checkCell(other);
        checkCell(into);
        return putAnswer(into, answers[one].order(answers[other]) < 0 ? answers[other] : answers[one]);
    }

    public int answerMin(int one, int other, int into) throws IndexOutOfBoundsException {
        checkCell(one);
        checkCell(other);
        checkCell(into);
        return putAnswer(into, answers[one].order(answers[other]) > 0 ? answers[other] : answers[one]);
    }

    public int answerSort() {
        for (int cell = 0; cell < CELLS; cell++) {
            answersBefore[cell] = answers[cell];
        }
        for (int from = 1; from < CELLS; from++) {
            Answer moved = answers[from];
            int at = from;
            while (at > 0 && answers[at - 1].order(moved) > 0) {
                answers[at] = answers[at - 1];
                at--;
            }
            answers[at] = moved;
        }
        int changed = 0;
        for (int cell = 0; cell < CELLS; cell++) {
            changed += answers[cell].isLike(answersBefore[cell]) ? 0 : 1;
        }
        counts[ANSWER_ACTS]++;
        return changed;
    }

    public int answerEnd(boolean isGreatest, int into) throws IndexOutOfBoundsException {
        checkCell(into);
        Answer end = answers[0];
        for (int cell = 1; cell < CELLS; cell++) {
            int order = answers[cell].order(end);
            if (isGreatest ? order > 0 : order < 0) {
                end = answers[cell];
            }
        }
        return putAnswer(into, end);
    }

    public int answerUpper(int cell) throws IndexOutOfBoundsException {
        checkCell(cell);
        return answers[cell].upper();
    }

    public String answerText(int cell) throws IndexOutOfBoundsException {
        checkCell(cell);
        return answers[cell].text();
    }

    public int answerFloor(int cell) throws IndexOutOfBoundsException {
        checkCell(cell);
        return answers[cell].floor;
    }

    public int answerPlaces(int cell, int places) throws IndexOutOfBoundsException, IllegalArgumentException {
        checkCell(cell);
        if (places < 0 || places > GREATEST_PLACES) {
            throw new IllegalArgumentException("places is not 0 to 9");
        }
        return answers[cell].placesBehind(places);
    }

    public int answerWhole(int cell) throws IndexOutOfBoundsException {
        checkCell(cell);
        return answers[cell].isWhole() ? answers[cell].floor : tellNothing();
    }

    public int answerOrder(int one, int other, int how) throws IndexOutOfBoundsException, IllegalArgumentException {
        checkCell(one);
        checkCell(other);
        if (how != 0 && how != 1) {
            throw new IllegalArgumentException("how is not 0 or 1");
        }
        return answers[one].order(answers[other]);
    }

    public boolean answerLike(int one, int other) throws IndexOutOfBoundsException {
        checkCell(one);
        checkCell(other);
        return answers[one].isLike(answers[other]);
    }

    public boolean answerBelow(int one, int other, boolean orLike) throws IndexOutOfBoundsException {
        checkCell(one);
        checkCell(other);
        int order = answers[one].order(answers[other]);
        return order < 0 || orLike && order == 0;
    }

    public int answerFind(int cell, boolean isLast) throws IndexOutOfBoundsException {
        checkCell(cell);
        return placeOfLike(cell, isLast);
    }

    // ---- what logarithms tell of a NUMBER cell

    public int digits(int cell) throws IndexOutOfBoundsException {
        checkCell(cell);
        return digitsOf(numbers[cell]);
    }

    public int binaryDigits(int cell) throws IndexOutOfBoundsException {
        checkCell(cell);
        int number = numbers[cell];
        return Numbers.isWhole(number) ? Numbers.highestBit(number) + 1 : tellNothing();
    }

    public int powerByLogs(int cell) throws IndexOutOfBoundsException {
        checkCell(cell);
        return Numbers.powerIn(numbers[cell]);
    }

    public int digitsIn(int cell, int base) throws IndexOutOfBoundsException, IllegalArgumentException {
        checkCell(cell);
        checkBase(base);
        if (!hasQuotient(numbers[cell])) {
            return tellNothing();
        }
        int digits = 1;
        for (int power = base; power <= numbers[cell]; power *= base) {
            digits++;
        }
        return digits;
    }

    public int quotient(int cell, int base) throws IndexOutOfBoundsException, IllegalArgumentException {
        checkCell(cell);
        checkBase(base);
        if (!hasQuotient(numbers[cell])) {
            return tellNothing();
        }
        return areas.answerAt(numbers[cell], false).millionthsOf(areas.answerAt(base, false));
    }

    // The last digits of an ANSWER are told nowhere, so what hangs on them (isTenth(), mirror(), stepSound(),
    // primesNear(), pairNear()) is not found again here: the document says that it is always so.

    public boolean isTenth(int cell) throws IndexOutOfBoundsException {
        checkCell(cell);
        return true;
    }

    public int mirror(int cell) throws IndexOutOfBoundsException {
        checkCell(cell);
        return Numbers.powerIn(numbers[cell]) == Numbers.NO_POWER ? tellNothing() : 1;
    }

    public int step(int cell, boolean isTen) throws IndexOutOfBoundsException {
        checkCell(cell);
        int number = numbers[cell];
        if (!hasStep(number)) {
            return tellNothing();
        }
        return areas.answerAt(number + 1, isTen).billionthsAbove(areas.answerAt(number, isTen));
    }

    public int stepSound(int cell) throws IndexOutOfBoundsException {
        checkCell(cell);
        return hasStep(numbers[cell]) ? 1 : tellNothing();
    }

    public String primes(int cell) throws IndexOutOfBoundsException {
        checkCell(cell);
        if (!Numbers.isWhole(numbers[cell])) {
            tellNothing();
            return NOTHING_TEXT;
        }
        int count = Numbers.factorInto(numbers[cell], primeRow);
        StringBuilder text = new StringBuilder();
        for (int at = 0; at < count && at < HEAP_ROOM; at++) {
            if (at > 0) {
                text.append('*');
            }
            text.append(primeRow[at]);
        }
        return text.toString();
    }

    public int primesNear(int cell, boolean isTen) throws IndexOutOfBoundsException {
        checkCell(cell);
        return Numbers.isWhole(numbers[cell]) ? 1 : tellNothing();
    }

    public int pairNear(int one, int other, boolean isTen) throws IndexOutOfBoundsException {
        checkCell(one);
        checkCell(other);
        if (!Numbers.isWhole(numbers[one]) || !Numbers.isWhole(numbers[other])) {
            return tellNothing();
        }
        return (long) numbers[one] * numbers[other] <= Numbers.GREATEST_WHOLE ? 1 : tellNothing();
    }

    public int factorialDigits(int n, boolean isTwo) throws IllegalArgumentException {
        if (n < 0 || n > GREATEST_FACTORIAL) {
            throw new IllegalArgumentException("n is not 0 to 100");
        }
        product.set(1);
        for (int factor = 2; factor <= n; factor++) {
            product.multiply(factor);
        }
        return isTwo ? product.binaryDigits() : digitsOfProduct();
    }

    // ---- HEAPS

    public int heapAdd(int heap, int cell) throws IndexOutOfBoundsException {
        checkHeap(heap);
        checkCell(cell);
        int size = sizes[heap];
        if (!Numbers.isWhole(numbers[cell]) || size < 0 || size >= HEAP_ROOM) {
            return tellNothing();
        }
        factors[heap * HEAP_ROOM + size] = numbers[cell];
        return putSize(heap, size + 1);
    }

    public int heapTake(int heap) throws IndexOutOfBoundsException {
        checkHeap(heap);
        int size = sizes[heap];
        if (size < 1 || size > HEAP_ROOM) {
            return tellNothing();
        }
        putSize(heap, size - 1);
        return factors[heap * HEAP_ROOM + size - 1];
    }

    public int heapPrimes(int heap, int cell) throws IndexOutOfBoundsException {
        checkHeap(heap);
        checkCell(cell);
        if (!Numbers.isWhole(numbers[cell])) {
            return tellNothing();
        }
        int count = Numbers.factorInto(numbers[cell], primeRow);
        System.arraycopy(primeRow, 0, factors, heap * HEAP_ROOM, HEAP_ROOM);
        return putSize(heap, count);
    }

    public int heapClear(int heap) throws IndexOutOfBoundsException {
        checkHeap(heap);
        int size = sizes[heap];
        putSize(heap, 0);
        return size;
    }

    public int heapCopy(int heap, int into) throws IndexOutOfBoundsException {
        checkHeap(heap);
        checkHeap(into);
        System.arraycopy(factors, heap * HEAP_ROOM, factors, into * HEAP_ROOM, HEAP_ROOM);
        return putSize(into, sizes[heap]);
    }

    public int heapSize(int heap) throws IndexOutOfBoundsException {
        checkHeap(heap);
        return sizes[heap];
    }

    public int heapAt(int heap, int at) throws IndexOutOfBoundsException {
        checkHeap(heap);
        if (at < 0 || at >= HEAP_ROOM) {
            throw new IndexOutOfBoundsException("at is not 0 to 15");
        }
        return at < sizes[heap] ? factors[heap * HEAP_ROOM + at] : tellNothing();
    }

    public String heapProduct(int heap) throws IndexOutOfBoundsException {
        checkHeap(heap);
        multiplyHeap(heap, product);
        return product.takeText();
    }

    public int heapOrder(int one, int other, boolean isTen) throws IndexOutOfBoundsException {
        checkHeap(one);
        checkHeap(other);
        return tell(orderOfHeaps(one, other));
    }

    public int heapAgainst(int heap, int cell, boolean isTen) throws IndexOutOfBoundsException {
        checkHeap(heap);
        checkCell(cell);
        return tell(orderAgainst(heap, numbers[cell]));
    }

    public int heapDigits(int heap) throws IndexOutOfBoundsException {
        checkHeap(heap);
        return tell(digitsOfHeap(heap));
    }

    public int heapBinaryDigits(int heap) throws IndexOutOfBoundsException {
        checkHeap(heap);
        return tell(binaryDigitsOfHeap(heap));
    }

    // ---- the whole

    public int house(int what) throws IllegalArgumentException {
        if (what < 0 || what >= COUNTS) {
            throw new IllegalArgumentException("what is not 0 to 4");
        }
        return counts[what];
    }

    public int knock() {
        counts[KNOCKS]++;
        return counts[KNOCKS];
    }

    public boolean isSound() {
        return areNumbersSound() && areAnswersSound() && areHeapsSound();
    }

    public long digest() {
        long sum = digestNumbers(7920);
        sum = digestAnswers(sum);
        sum = digestHeaps(sum);
        for (int what = 0; what < COUNTS; what++) {
            sum = digestNext(sum, counts[what]);
        }
        return digestNext(sum, isSound() ? 1 : 0);
    }

    // ---- checks of arguments

    private static void checkCell(int cell) {
        if (cell < 0 || cell >= CELLS) {
            throw new IndexOutOfBoundsException("a cell is not 0 to 7");
        }
    }

    private static void checkHeap(int heap) {
        if (heap < 0 || heap >= HEAPS) {
            throw new IndexOutOfBoundsException("a heap is not 0 to 3");
        }
    }

    private static void checkBase(int base) {
        if (base < 2 || base > GREATEST_BASE) {
            throw new IllegalArgumentException("base is not 2 to 17");
        }
    }

    // ---- acts, and what could not be done

    private int tellNothing() {
        counts[NOTHINGS]++;
        return NOTHING;
    }

    /** For what is never -9 but where there is nothing to tell. */
    private int tell(int told) {
        return told == NOTHING ? tellNothing() : told;
    }

    private int putNumber(int cell, int number) {
        int changed = numbers[cell] == number ? 0 : 1;
        numbers[cell] = number;
        counts[NUMBER_ACTS]++;
        return changed;
    }

    private int putIfInSet(int into, int number) {
        return number == Numbers.OUTSIDE ? tellNothing() : putNumber(into, number);
    }

    private int putAnswer(int into, Answer answer) {
        int changed = answers[into].isLike(answer) ? 0 : 1;
        answers[into] = answer;
        counts[ANSWER_ACTS]++;
        return changed;
    }

    private int putSize(int heap, int size) {
        sizes[heap] = size;
        counts[HEAP_ACTS]++;
        return size;
    }

    // ---- what is asked of NUMBERS and ANSWERS, uncounted

    private static boolean hasQuotient(int number) {
        return number >= 1 && number <= GREATEST_QUOTIENT;
    }

    private static boolean hasStep(int number) {
        return Numbers.isWhole(number) && number < Numbers.GREATEST_WHOLE;
    }

    private int digitsOf(int number) {
        if (!Numbers.isWhole(number)) {
            return areas.answerAt(number, true).floor + 1;
        }
        int digits = 1;
        for (int power = 10; power <= number; power *= 10) {
            digits++;
        }
        return digits;
    }

    private int placeOfLike(int cell, boolean isLast) {
        int place = cell;
        for (int at = 0; at < CELLS; at++) {
            boolean isFurther = isLast ? at > place : at < place;
            if (isFurther && answers[at].isLike(answers[cell])) {
                place = at;
            }
        }
        return place;
    }

    // ---- what is asked of HEAPS, uncounted

    private void multiplyHeap(int heap, Natural into) {
        into.set(1);
        for (int at = 0; at < sizes[heap] && at < HEAP_ROOM; at++) {
            into.multiply(factors[heap * HEAP_ROOM + at]);
        }
    }

    private boolean isApart(Natural one, Natural other) {
        boolean isGreater = one.order(other) > 0;
        Natural greater = isGreater ? one : other;
        Natural lesser = isGreater ? other : one;
        gap.copy(greater);
        gap.subtract(lesser);
        gap.multiply(HALF_OF_APART);
        gap.multiply(HALF_OF_APART);
        return gap.order(lesser) > 0;
    }

    private int orderOfHeaps(int one, int other) {
        multiplyHeap(one, product);
        multiplyHeap(other, otherProduct);
        return isApart(product, otherProduct) ? product.order(otherProduct) : NOTHING;
    }

    private int orderAgainst(int heap, int number) {
        // A PRODUCT is at least 1, so it is at least twice a NUMBER below 1.
        if (Numbers.isBelowOne(number)) {
            return 1;
        }
        multiplyHeap(heap, product);
        if (Numbers.isWhole(number)) {
            line.set(number);
        } else {
            line.setPower(Numbers.powerIn(number));
        }
        return isApart(product, line) ? product.order(line) : NOTHING;
    }

    /** How many digits the product has, written by tens; the line is the power of ten next above it then. */
    private int digitsOfProduct() {
        int digits = 0;
        line.set(1);
        while (line.order(product) <= 0 && digits < Natural.MOST_DIGITS) {
            line.multiply(10);
            digits++;
        }
        return digits;
    }

    private int digitsOfHeap(int heap) {
        multiplyHeap(heap, product);
        int digits = digitsOfProduct();
        if (!isApart(product, line)) {
            return NOTHING;
        }
        line.set(1);
        for (int at = 1; at < digits; at++) {
            line.multiply(10);
        }
        return isApart(product, line) ? digits : NOTHING;
    }

    private int binaryDigitsOfHeap(int heap) {
        multiplyHeap(heap, product);
        int digits = product.binaryDigits();
        line.setPower(digits);
        if (!isApart(product, line)) {
            return NOTHING;
        }
        line.setPower(digits - 1);
        return isApart(product, line) ? digits : NOTHING;
    }

    // ---- soundness: what is held is looked at; what is so of every NUMBER of the SET, whatever is held (the
    // order of its ANSWERS, its STEPS, its PRIMES), cannot break here.

    private boolean areNumbersSound() {
        for (int cell = 0; cell < CELLS; cell++) {
            if (!Numbers.isInSet(numbers[cell])) {
                return false;
            }
        }
        return true;
    }

    private boolean areAnswersSound() {
        for (int one = 0; one < CELLS; one++) {
            for (int other = 0; other < CELLS; other++) {
                if (!isPairSound(one, other)) {
                    return false;
                }
            }
        }
        return true;
    }

    private boolean isPairSound(int one, int other) {
        int order = answers[one].order(answers[other]);
        if (order != -answers[other].order(answers[one]) || (order == 0) != answers[one].isLike(answers[other])) {
            return false;
        }
        for (int third = 0; third < CELLS && order < 0; third++) {
            if (answers[other].order(answers[third]) < 0 && answers[one].order(answers[third]) >= 0) {
                return false;
            }
        }
        return true;
    }

    private boolean areHeapsSound() {
        for (int heap = 0; heap < HEAPS; heap++) {
            if (sizes[heap] < 0 || sizes[heap] > HEAP_ROOM) {
                return false;
            }
            for (int at = 0; at < sizes[heap]; at++) {
                if (!Numbers.isWhole(factors[heap * HEAP_ROOM + at])) {
                    return false;
                }
            }
        }
        return true;
    }

    // ---- the checksum

    private static long digestNext(long sum, long value) {
        return sum * 31 + value;
    }

    private long digestNumbers(long start) {
        long sum = start;
        for (int cell = 0; cell < CELLS; cell++) {
            int number = numbers[cell];
            sum = digestNext(sum, Numbers.upper(number));
            sum = digestNext(sum, digitsOf(number));
            sum = digestNext(sum, Numbers.isWhole(number) ? number : NOTHING);
            sum = digestNext(sum, Numbers.powerIn(number));
        }
        for (int cell = 0; cell < CELLS; cell++) {
            if (Numbers.isWhole(numbers[cell])) {
                sum = digestNext(sum, Numbers.highestBit(numbers[cell]) + 1);
                sum = digestNext(sum, Numbers.factorInto(numbers[cell], primeRow));
            }
        }
        return sum;
    }

    private long digestAnswers(long start) {
        long sum = start;
        for (int cell = 0; cell < CELLS; cell++) {
            sum = digestNext(sum, answers[cell].upper());
            sum = digestNext(sum, answers[cell].floor);
            sum = digestNext(sum, answers[cell].placesBehind(GREATEST_PLACES));
            sum = digestNext(sum, placeOfLike(cell, false));
            sum = digestNext(sum, placeOfLike(cell, true));
        }
        for (int one = 0; one < CELLS; one++) {
            for (int other = one + 1; other < CELLS; other++) {
                sum = digestNext(sum, answers[one].order(answers[other]));
            }
        }
        return sum;
    }

    private long digestHeaps(long start) {
        long sum = start;
        for (int heap = 0; heap < HEAPS; heap++) {
            sum = digestNext(sum, sizes[heap]);
            for (int at = 0; at < sizes[heap] && at < HEAP_ROOM; at++) {
                sum = digestNext(sum, factors[heap * HEAP_ROOM + at]);
            }
            sum = digestNext(sum, digitsOfHeap(heap));
            sum = digestNext(sum, binaryDigitsOfHeap(heap));
        }
        for (int one = 0; one < HEAPS; one++) {
            for (int other = one + 1; other < HEAPS; other++) {
                sum = digestNext(sum, orderOfHeaps(one, other));
            }
        }
        return sum;
    }

    /**
     * A NUMBER as an int that grows with its value: k for 2^k below 1, the WHOLE one itself, and for
     * greater POWERS what follows 65536. So SAME is ==, and the order of NUMBERS is that of ints.
     */
    static final class Numbers {
        static final int GREATEST_WHOLE = 65536;
        static final int GREATEST_POWER = 1000;
        static final int NO_POWER = -2147483648;
        static final int OUTSIDE = 0;

        private static final int GREATEST_WHOLE_POWER = 16;
        private static final int ABOVE_WHOLE = GREATEST_WHOLE - GREATEST_WHOLE_POWER;
        private static final int EXPONENT_OF_ONE = 1023;
        private static final int FRACTION_DIGITS = 52;

        private Numbers() {
        }

        static boolean isInSet(int number) {
            return number >= -GREATEST_POWER && number != OUTSIDE && number <= ABOVE_WHOLE + GREATEST_POWER;
        }

        static boolean isWhole(int number) {
            return number >= 1 && number <= GREATEST_WHOLE;
        }

        static boolean isBelowOne(int number) {
            return number < 1;
        }

        static int ofPower(int k) {
            if (k < -GREATEST_POWER || k > GREATEST_POWER) {
                return OUTSIDE;
            }
            if (k < 0) {
                return k;
            }
            return k <= GREATEST_WHOLE_POWER ? 1 << k : ABOVE_WHOLE + k;
        }

        static int powerIn(int number) {
            if (number < 1) {
                return number;
            }
            if (number > GREATEST_WHOLE) {
                return number - ABOVE_WHOLE;
            }
            return (number & (number - 1)) == 0 ? highestBit(number) : NO_POWER;
        }

        static int productOf(int one, int other) {
            return ofOddAndTwos((long) oddIn(one) * oddIn(other), twosIn(one) + twosIn(other));
        }

        static int quotientOf(int one, int other) {
            int divisor = oddIn(other);
            if (divisor < 1 || oddIn(one) % divisor != 0) {
                return OUTSIDE;
            }
            return ofOddAndTwos(oddIn(one) / divisor, twosIn(one) - twosIn(other));
        }

        /** How often 2 stands in a NUMBER; below 0 if it divides it. */
        private static int twosIn(int number) {
            if (!isWhole(number)) {
                return powerIn(number);
            }
            int twos = 0;
            while (twos < GREATEST_WHOLE_POWER && (number >> twos & 1) == 0) {
                twos++;
            }
            return twos;
        }

        private static int oddIn(int number) {
            return isWhole(number) ? number >> twosIn(number) : 1;
        }

        private static int ofOddAndTwos(long odd, int twos) {
            if (odd == 1) {
                return ofPower(twos);
            }
            if (twos < 0 || twos > GREATEST_WHOLE_POWER || odd << twos > GREATEST_WHOLE) {
                return OUTSIDE;
            }
            return (int) (odd << twos);
        }

        /** The place of the highest 1 among the binary digits, from 0 at the low end; 0 of what is below 1. */
        static int highestBit(long value) {
            int place = 62;
            while (place > 0 && value >> place < 1) {
                place--;
            }
            return place;
        }

        static int exponent(int number) {
            return EXPONENT_OF_ONE + (isWhole(number) ? highestBit(number) : powerIn(number));
        }

        static long fraction(int number) {
            if (!isWhole(number)) {
                return 0;
            }
            int highest = highestBit(number);
            return (number - (1L << highest)) << FRACTION_DIGITS - highest;
        }

        static int upper(int number) {
            return exponent(number) << 20 | (int) (fraction(number) >> 32);
        }

        /** Puts the PRIMES of a WHOLE one to the begin of a row, from the least one on; tells how many. */
        static int factorInto(int whole, int[] row) {
            int rest = whole;
            int count = 0;
            for (int prime = 2; prime * prime <= rest; prime++) {
                while (rest % prime == 0 && count < row.length) {
                    row[count] = prime;
                    count++;
                    rest /= prime;
                }
            }
            if (rest > 1 && count < row.length) {
                row[count] = rest;
                count++;
            }
            return count;
        }
    }

    /**
     * An ANSWER, told by the exact area behind it: a whole number (rounded down) and what it is above
     * that, cut off toward 0 in size at 2^-60. The document's lines are nowhere nearer than 2^-57.
     */
    static final class Answer {
        static final int PART_DIGITS = 60;
        static final long ONE = 1L << PART_DIGITS;

        private static final int HALF = PART_DIGITS / 2;
        private static final int SIZE_DIGITS = 50;
        private static final int QUOTIENT_DIGITS = 56;
        private static final int EXPONENT_OF_ONE = 1023;
        private static final int TOLD_DIGITS = 28;
        private static final int BILLION = 1000000000;

        final int number;
        final boolean isTen;
        final int floor;
        final long part;

        Answer(int number, boolean isTen, int floor, long part) {
            this.number = number;
            this.isTen = isTen;
            this.floor = floor;
            this.part = part;
        }

        boolean isLike(Answer other) {
            return number == other.number && (isTen == other.isTen || number == 1);
        }

        int order(Answer other) {
            if (floor != other.floor) {
                return floor < other.floor ? -1 : 1;
            }
            if (part != other.part) {
                return part < other.part ? -1 : 1;
            }
            return 0;
        }

        boolean isWhole() {
            return part == 0;
        }

        int placesBehind(int places) {
            int scale = 1;
            for (int place = 0; place < places; place++) {
                scale *= 10;
            }
            return partTimes(part, scale);
        }

        /** Rounded down; in two halves, so that no product passes 63 binary digits. */
        private static int partTimes(long part, int scale) {
            long high = part >> HALF;
            long low = part & (1L << HALF) - 1;
            return (int) (high * scale + (low * scale >> HALF) >> HALF);
        }

        int billionthsAbove(Answer lesser) {
            long rise = (floor - lesser.floor) * ONE + part - lesser.part;
            return partTimes(rise, BILLION);
        }

        /** The nearest whole number of millionths of this one divided by another one above 0. */
        int millionthsOf(Answer other) {
            long divisor = other.sized(QUOTIENT_DIGITS);
            if (divisor < 1) {
                return 0;
            }
            long rest = sized(QUOTIENT_DIGITS);
            long told = rest / divisor;
            rest %= divisor;
            for (int place = 0; place < 6; place++) {
                rest *= 10;
                told = told * 10 + rest / divisor;
                rest %= divisor;
            }
            return (int) (rest * 2 >= divisor ? told + 1 : told);
        }

        /** The size in whole numbers over 2^digits, cut off. */
        private long sized(int digits) {
            long whole = floor < 0 ? -floor - 1 : floor;
            long rest = floor < 0 ? ONE - part : part;
            return (whole << digits) + (rest >> PART_DIGITS - digits);
        }

        private int exponent() {
            long size = sized(SIZE_DIGITS);
            return size < 1 ? 0 : EXPONENT_OF_ONE + Numbers.highestBit(size) - SIZE_DIGITS;
        }

        /** The first 28 digits of FRACTION. No size above 0 is below 2^-2, so there are as many digits. */
        private int fraction() {
            long size = sized(SIZE_DIGITS);
            int behind = Numbers.highestBit(size) - TOLD_DIGITS;
            return behind < 0 ? 0 : (int) (size >> behind) - (1 << TOLD_DIGITS);
        }

        int upper() {
            int behindSign = exponent() << 20 | fraction() >> TOLD_DIGITS - 20;
            return floor < 0 ? behindSign | 1 << 31 : behindSign;
        }

        String text() {
            StringBuilder text = new StringBuilder();
            text.append(floor < 0 ? "1 " : "0 ").append(exponent()).append(' ').append(fraction());
            return text.toString();
        }
    }

    /**
     * Finds areas by whole numbers, in rows of four limbs: whole ones, then three of 30 binary digits
     * each behind the point. All that is cut off on the way stays below 2^-75.
     */
    static final class Areas {
        private static final int LIMBS = 4;
        private static final int LIMB_DIGITS = 30;
        private static final long LIMB_MASK = (1L << LIMB_DIGITS) - 1;
        /** Each part of the row is less than a ninth of the one before, so all are 0 long before this one. */
        private static final int LAST_PART = 99;

        /** LN(2). */
        private static final long[] LN_OF_2 = {0, 744261117, 1025308570, 791121614};
        /** 1 / LN(10). */
        private static final long[] TEN_BY_NATURAL = {0, 466320149, 163136396, 711636821};

        private final long[] area = new long[LIMBS];
        private final long[] power = new long[LIMBS];
        private final long[] part = new long[LIMBS];

        Answer answerAt(int number, boolean isTen) {
            int tens = tensIn(number);
            if (number == 1 || isTen && tens > 0) {
                // These stand on the line, where what is cut off would tell.
                return new Answer(number, isTen, tens, 0);
            }
            int twos = Numbers.powerIn(number);
            if (twos == Numbers.NO_POWER) {
                setWhole(number);
            } else {
                setTwos(twos < 0 ? -twos : twos);
            }
            if (isTen) {
                turnIntoTen();
            }
            int whole = (int) area[0];
            long behind = (area[1] << LIMB_DIGITS) + area[2];
            if (Numbers.isBelowOne(number)) {
                return new Answer(number, isTen, -whole - 1, Answer.ONE - behind);
            }
            return new Answer(number, isTen, whole, behind);
        }

        /** The n of a NUMBER 10^n; 0 of each other one. */
        private static int tensIn(int number) {
            int tens = 0;
            int rest = number;
            while (rest >= 10 && rest % 10 == 0) {
                rest /= 10;
                tens++;
            }
            return rest == 1 ? tens : 0;
        }

        private void setTwos(int twos) {
            for (int limb = 0; limb < LIMBS; limb++) {
                area[limb] = LN_OF_2[limb];
            }
            multiply(area, twos);
        }

        /** The document's row, with y = over / under; each part is made from the one before. */
        private void setWhole(int number) {
            int twos = Numbers.highestBit(number);
            setTwos(twos);
            int over = number - (1 << twos);
            int under = number + (1 << twos);
            clear(power);
            power[0] = 2;
            multiply(power, over);
            divide(power, under);
            for (int odd = 1; odd <= LAST_PART && !isZero(power); odd += 2) {
                for (int limb = 0; limb < LIMBS; limb++) {
                    part[limb] = power[limb];
                }
                divide(part, odd);
                add(area, part);
                multiply(power, over);
                divide(power, under);
                multiply(power, over);
                divide(power, under);
            }
        }

        private void turnIntoTen() {
            long carry = 0;
            for (int column = 2 * LIMBS - 2; column >= 0; column--) {
                long sum = carry;
                for (int limb = 0; limb < LIMBS; limb++) {
                    int other = column - limb;
                    if (other >= 0 && other < LIMBS) {
                        sum += area[limb] * TEN_BY_NATURAL[other];
                    }
                }
                if (column < LIMBS) {
                    part[column] = sum & LIMB_MASK;
                }
                carry = sum >> LIMB_DIGITS;
            }
            for (int limb = 0; limb < LIMBS; limb++) {
                area[limb] = part[limb];
            }
        }

        private static void clear(long[] row) {
            for (int limb = 0; limb < row.length; limb++) {
                row[limb] = 0;
            }
        }

        private static boolean isZero(long[] row) {
            for (int limb = 0; limb < row.length; limb++) {
                if (row[limb] != 0) {
                    return false;
                }
            }
            return true;
        }

        private static void add(long[] row, long[] more) {
            long carry = 0;
            for (int limb = row.length - 1; limb >= 0; limb--) {
                long sum = row[limb] + (limb < more.length ? more[limb] : 0) + carry;
                row[limb] = limb > 0 ? sum & LIMB_MASK : sum;
                carry = sum >> LIMB_DIGITS;
            }
        }

        private static void multiply(long[] row, int factor) {
            long carry = 0;
            for (int limb = row.length - 1; limb >= 0; limb--) {
                long sum = row[limb] * factor + carry;
                row[limb] = limb > 0 ? sum & LIMB_MASK : sum;
                carry = sum >> LIMB_DIGITS;
            }
        }

        private static void divide(long[] row, int divisor) {
            if (divisor < 1) {
                return;
            }
            long rest = 0;
            for (int limb = 0; limb < row.length; limb++) {
                long sum = (rest << LIMB_DIGITS) + row[limb];
                row[limb] = sum / divisor;
                rest = sum % divisor;
            }
        }
    }

    /** A whole number of up to 1200 binary digits, in limbs of 30, the lowest first. */
    static final class Natural {
        static final int MOST_DIGITS = 361;

        private static final int LIMBS = 40;
        private static final int LIMB_DIGITS = 30;
        private static final long LIMB_MASK = (1L << LIMB_DIGITS) - 1;

        private final long[] limbs = new long[LIMBS];
        /** How many limbs count; the highest of them is not 0. What lies behind is old and never read. */
        private int used;

        void set(long value) {
            used = 0;
            for (long rest = value; rest > 0 && used < LIMBS; rest >>= LIMB_DIGITS) {
                limbs[used] = rest & LIMB_MASK;
                used++;
            }
        }

        void setPower(int k) {
            int highest = k / LIMB_DIGITS;
            if (k < 0 || highest >= LIMBS) {
                return;
            }
            for (int limb = 0; limb < highest; limb++) {
                limbs[limb] = 0;
            }
            limbs[highest] = 1L << k % LIMB_DIGITS;
            used = highest + 1;
        }

        void copy(Natural other) {
            used = other.used;
            for (int limb = 0; limb < used; limb++) {
                limbs[limb] = other.limbs[limb];
            }
        }

        void multiply(int factor) {
            long carry = 0;
            for (int limb = 0; limb < used; limb++) {
                carry += limbs[limb] * factor;
                limbs[limb] = carry & LIMB_MASK;
                carry >>= LIMB_DIGITS;
            }
            if (carry > 0 && used < LIMBS) {
                limbs[used] = carry;
                used++;
            }
        }

        /** Takes away one that is not greater. */
        void subtract(Natural lesser) {
            long borrow = 0;
            for (int limb = 0; limb < used; limb++) {
                long rest = limbs[limb] - borrow - (limb < lesser.used ? lesser.limbs[limb] : 0);
                borrow = rest < 0 ? 1 : 0;
                limbs[limb] = rest & LIMB_MASK;
            }
            dropZeros();
        }

        int order(Natural other) {
            if (used != other.used) {
                return used < other.used ? -1 : 1;
            }
            for (int limb = used - 1; limb >= 0; limb--) {
                if (limbs[limb] != other.limbs[limb]) {
                    return limbs[limb] < other.limbs[limb] ? -1 : 1;
                }
            }
            return 0;
        }

        int binaryDigits() {
            return used < 1 ? 0 : (used - 1) * LIMB_DIGITS + Numbers.highestBit(limbs[used - 1]) + 1;
        }

        /** Written by tens; the number is 0 then. */
        String takeText() {
            StringBuilder text = new StringBuilder();
            do {
                text.append((char) ('0' + divideByTen()));
            } while (used > 0 && text.length() < MOST_DIGITS);
            return text.reverse().toString();
        }

        private int divideByTen() {
            long rest = 0;
            for (int limb = used - 1; limb >= 0; limb--) {
                long sum = (rest << LIMB_DIGITS) + limbs[limb];
                limbs[limb] = sum / 10;
                rest = sum % 10;
            }
            dropZeros();
            return (int) rest;
        }

        private void dropZeros() {
            while (used > 0 && limbs[used - 1] == 0) {
                used--;
            }
        }
    }
}
