import java.math.BigDecimal;
import java.math.BigInteger;
import java.math.RoundingMode;
import java.util.ArrayList;
import java.util.Arrays;
import java.util.List;

/**
 * The document's face, done the other way round: with the library's strict logarithms and its own
 * digits, where the program holds exact areas. Whatever both tell must agree.
 */
final class Model {
    private static final BigInteger APART = BigInteger.ONE.shiftLeft(40);

    private static final class Answer {
        final double value;
        final double number;
        final boolean isTen;

        Answer(double number, boolean isTen) {
            this.number = number;
            this.isTen = isTen;
            this.value = log(number, isTen);
        }
    }

    private final double[] numbers = new double[8];
    private final Answer[] answers = new Answer[8];
    private final List<List<Integer>> heaps = new ArrayList<>();
    private final int[] house = new int[5];

    Model() {
        Arrays.fill(numbers, 1);
        Arrays.fill(answers, new Answer(1, false));
        for (int heap = 0; heap < 4; heap++) {
            heaps.add(new ArrayList<>());
        }
    }

    static double log(double number, boolean isTen) {
        return isTen ? StrictMath.log10(number) : StrictMath.log(number);
    }

    static boolean isWhole(double number) {
        return number >= 1 && number <= 65536 && number == StrictMath.rint(number);
    }

    static boolean isPower(double number) {
        int k = Math.getExponent(number);
        return k >= -1000 && k <= 1000 && number == Math.scalb(1.0, k);
    }

    private void cells(int... cells) {
        for (int cell : cells) {
            if (cell < 0 || cell > 7) {
                throw new IndexOutOfBoundsException();
            }
        }
    }

    private void heap(int heap) {
        if (heap < 0 || heap > 3) {
            throw new IndexOutOfBoundsException();
        }
    }

    private void let(boolean isLet) {
        if (!isLet) {
            throw new IllegalArgumentException();
        }
    }

    private int nothing() {
        house[3]++;
        return -9;
    }

    private int put(int into, double number) {
        int changed = numbers[into] == number ? 0 : 1;
        numbers[into] = number;
        house[0]++;
        return changed;
    }

    private int putExact(int into, BigDecimal exact) {
        double number = exact.doubleValue();
        boolean isExact = number > 0 && !Double.isInfinite(number) && new BigDecimal(number).compareTo(exact) == 0;
        return isExact && (isWhole(number) || isPower(number)) ? put(into, number) : nothing();
    }

    public int putWhole(int cell, int n) {
        cells(cell);
        let(n >= 1 && n <= 65536);
        return put(cell, n);
    }

    public int putPower(int cell, int k) {
        cells(cell);
        let(k >= -1000 && k <= 1000);
        return put(cell, Math.scalb(1.0, k));
    }

    public int putCopy(int cell, int into) {
        cells(cell, into);
        return put(into, numbers[cell]);
    }

    public int times(int one, int other, int into) {
        cells(one, other, into);
        return putExact(into, new BigDecimal(numbers[one]).multiply(new BigDecimal(numbers[other])));
    }

    public int over(int one, int other, int into) {
        cells(one, other, into);
        try {
            return putExact(into, new BigDecimal(numbers[one]).divide(new BigDecimal(numbers[other])));
        } catch (ArithmeticException endless) {
            return nothing();
        }
    }

    public int up(int cell) {
        cells(cell);
        if (!isWhole(numbers[cell]) || numbers[cell] == 65536) {
            return nothing();
        }
        put(cell, numbers[cell] + 1);
        return (int) numbers[cell];
    }

    public int numberSort() {
        double[] before = numbers.clone();
        Arrays.sort(numbers);
        house[0]++;
        int changed = 0;
        for (int cell = 0; cell < 8; cell++) {
            changed += before[cell] == numbers[cell] ? 0 : 1;
        }
        return changed;
    }

    public int wholeOf(int cell) {
        cells(cell);
        return isWhole(numbers[cell]) ? (int) numbers[cell] : nothing();
    }

    public int powerOf(int cell) {
        cells(cell);
        return isPower(numbers[cell]) ? Math.getExponent(numbers[cell]) : Integer.MIN_VALUE;
    }

    public int numberUpper(int cell) {
        cells(cell);
        return (int) (Double.doubleToLongBits(numbers[cell]) >> 32);
    }

    public String numberText(int cell) {
        cells(cell);
        long bits = Double.doubleToLongBits(numbers[cell]);
        return (bits >>> 63) + " " + (bits >> 52 & 2047) + " " + (bits & (1L << 52) - 1);
    }

    private static boolean isLike(Answer one, Answer other) {
        return one.number == other.number && (one.isTen == other.isTen || one.number == 1);
    }

    private int putAnswer(int into, Answer answer) {
        int changed = isLike(answers[into], answer) ? 0 : 1;
        answers[into] = answer;
        house[1]++;
        return changed;
    }

    public int answer(int cell, boolean isTen, int into) {
        cells(cell, into);
        return putAnswer(into, new Answer(numbers[cell], isTen));
    }

    public int answerMax(int one, int other, int into) {
        cells(one, other, into);
        return putAnswer(into, answers[one].value >= answers[other].value ? answers[one] : answers[other]);
    }

    public int answerMin(int one, int other, int into) {
        cells(one, other, into);
        return putAnswer(into, answers[one].value <= answers[other].value ? answers[one] : answers[other]);
    }

    public int answerSort() {
        Answer[] before = answers.clone();
        Arrays.sort(answers, (one, other) -> Double.compare(one.value, other.value));
        house[1]++;
        int changed = 0;
        for (int cell = 0; cell < 8; cell++) {
            changed += isLike(before[cell], answers[cell]) ? 0 : 1;
        }
        return changed;
    }

    public int answerEnd(boolean isGreatest, int into) {
        cells(into);
        Answer[] sorted = answers.clone();
        Arrays.sort(sorted, (one, other) -> Double.compare(one.value, other.value));
        return putAnswer(into, sorted[isGreatest ? 7 : 0]);
    }

    public int answerUpper(int cell) {
        cells(cell);
        return (int) (Double.doubleToLongBits(answers[cell].value) >> 32);
    }

    public String answerText(int cell) {
        cells(cell);
        return textOf(answers[cell].value);
    }

    static String textOf(double value) {
        long bits = Double.doubleToLongBits(value);
        return (bits >>> 63) + " " + (bits >> 52 & 2047) + " " + (bits >> 24 & (1 << 28) - 1);
    }

    public int answerFloor(int cell) {
        cells(cell);
        return (int) Math.floor(answers[cell].value);
    }

    public int answerPlaces(int cell, int places) {
        cells(cell);
        let(places >= 0 && places <= 9);
        return placesOf(answers[cell].value, places);
    }

    static int placesOf(double value, int places) {
        return inPlaces(new BigDecimal(value).subtract(new BigDecimal(Math.floor(value))), places);
    }

    static int inPlaces(BigDecimal value, int places) {
        return value.movePointRight(places).setScale(0, RoundingMode.FLOOR).intValueExact();
    }

    public int answerWhole(int cell) {
        cells(cell);
        double value = answers[cell].value;
        return value == Math.floor(value) ? (int) value : nothing();
    }

    public int answerOrder(int one, int other, int how) {
        cells(one, other);
        let(how == 0 || how == 1);
        return Double.compare(answers[one].value, answers[other].value);
    }

    public boolean answerLike(int one, int other) {
        cells(one, other);
        return answers[one].value == answers[other].value;
    }

    public boolean answerBelow(int one, int other, boolean orLike) {
        cells(one, other);
        return answers[one].value < answers[other].value || orLike && answers[one].value == answers[other].value;
    }

    public int answerFind(int cell, boolean isLast) {
        cells(cell);
        for (int count = 0; count < 8; count++) {
            int at = isLast ? 7 - count : count;
            if (answers[at].value == answers[cell].value) {
                return at;
            }
        }
        throw new AssertionError();
    }

    public int digits(int cell) {
        cells(cell);
        return (int) Math.floor(StrictMath.log10(numbers[cell])) + 1;
    }

    public int binaryDigits(int cell) {
        cells(cell);
        return isWhole(numbers[cell]) ? binaryDigitsOf(numbers[cell]) : nothing();
    }

    static int binaryDigitsOf(double whole) {
        return (int) (StrictMath.log(whole) / StrictMath.log(2)) + 1;
    }

    public int powerByLogs(int cell) {
        cells(cell);
        if (!isPower(numbers[cell])) {
            return Integer.MIN_VALUE;
        }
        return (int) StrictMath.rint(StrictMath.log(numbers[cell]) / StrictMath.log(2));
    }

    public int digitsIn(int cell, int base) {
        cells(cell);
        let(base >= 2 && base <= 17);
        double number = numbers[cell];
        return isWhole(number) && number <= 4096 ? millionths(number, base) / 1000000 + 1 : nothing();
    }

    public int quotient(int cell, int base) {
        cells(cell);
        let(base >= 2 && base <= 17);
        double number = numbers[cell];
        return isWhole(number) && number <= 4096 ? millionths(number, base) : nothing();
    }

    static int millionths(double number, double base) {
        BigDecimal quotient = new BigDecimal(StrictMath.log(number) / StrictMath.log(base));
        return quotient.movePointRight(6).add(new BigDecimal("0.5")).setScale(0, RoundingMode.FLOOR).intValueExact();
    }

    private static long units(double one, double other) {
        return Math.abs(Double.doubleToLongBits(one) - Double.doubleToLongBits(other));
    }

    public boolean isTenth(int cell) {
        cells(cell);
        return isTenthAt(numbers[cell]);
    }

    static boolean isTenthAt(double number) {
        return units(StrictMath.log(number) / StrictMath.log(10), StrictMath.log10(number)) <= 2;
    }

    public int mirror(int cell) {
        cells(cell);
        double number = numbers[cell];
        if (!isPower(number)) {
            return nothing();
        }
        return StrictMath.log(number) == -StrictMath.log(1 / number) ? 1 : 0;
    }

    static double stepAt(double n, boolean isTen) {
        return log(n + 1, isTen) - log(n, isTen);
    }

    public int step(int cell, boolean isTen) {
        cells(cell);
        double number = numbers[cell];
        boolean hasStep = isWhole(number) && number < 65536;
        return hasStep ? inPlaces(new BigDecimal(stepAt(number, isTen)), 9) : nothing();
    }

    public int stepSound(int cell) {
        cells(cell);
        double number = numbers[cell];
        return isWhole(number) && number < 65536 ? (isStepSound(number) ? 1 : 0) : nothing();
    }

    static boolean isStepSound(double n) {
        BigDecimal step = new BigDecimal(stepAt(n, false));
        boolean falls = n + 1 == 65536
            || stepAt(n + 1, false) < stepAt(n, false) && stepAt(n + 1, true) < stepAt(n, true);
        return falls && step.multiply(new BigDecimal(n)).compareTo(BigDecimal.ONE) < 0
            && step.multiply(new BigDecimal(n + 1)).compareTo(BigDecimal.ONE) > 0;
    }

    static List<Integer> primesOf(int whole) {
        List<Integer> primes = new ArrayList<>();
        int rest = whole;
        for (int prime = 2; rest > 1; prime++) {
            for (; rest % prime == 0; rest /= prime) {
                primes.add(prime);
            }
        }
        return primes;
    }

    public String primes(int cell) {
        cells(cell);
        if (!isWhole(numbers[cell])) {
            nothing();
            return "-9";
        }
        return String.join("*", primesOf((int) numbers[cell]).stream().map(String::valueOf).toList());
    }

    public int primesNear(int cell, boolean isTen) {
        cells(cell);
        double number = numbers[cell];
        return isWhole(number) ? (arePrimesNear((int) number, isTen) ? 1 : 0) : nothing();
    }

    static boolean arePrimesNear(int whole, boolean isTen) {
        double sum = 0;
        for (int prime : primesOf(whole)) {
            sum += log(prime, isTen);
        }
        return units(sum, log(whole, isTen)) <= (isTen ? 2 : 3);
    }

    public int pairNear(int one, int other, boolean isTen) {
        cells(one, other);
        double product = numbers[one] * numbers[other];
        if (!isWhole(numbers[one]) || !isWhole(numbers[other]) || product > 65536) {
            return nothing();
        }
        double sum = log(numbers[one], isTen) + log(numbers[other], isTen);
        return units(sum, log(product, isTen)) <= 1 ? 1 : 0;
    }

    public int factorialDigits(int n, boolean isTwo) {
        let(n >= 0 && n <= 100);
        double sum = 0;
        for (int factor = 1; factor <= n; factor++) {
            sum += log(factor, !isTwo);
        }
        return (int) (isTwo ? sum / StrictMath.log(2) : sum) + 1;
    }

    public int heapAdd(int heap, int cell) {
        heap(heap);
        cells(cell);
        List<Integer> row = heaps.get(heap);
        if (!isWhole(numbers[cell]) || row.size() == 16) {
            return nothing();
        }
        row.add((int) numbers[cell]);
        house[2]++;
        return row.size();
    }

    public int heapTake(int heap) {
        heap(heap);
        List<Integer> row = heaps.get(heap);
        if (row.isEmpty()) {
            return nothing();
        }
        house[2]++;
        return row.remove(row.size() - 1);
    }

    public int heapPrimes(int heap, int cell) {
        heap(heap);
        cells(cell);
        if (!isWhole(numbers[cell])) {
            return nothing();
        }
        heaps.set(heap, primesOf((int) numbers[cell]));
        house[2]++;
        return heaps.get(heap).size();
    }

    public int heapClear(int heap) {
        heap(heap);
        int size = heaps.get(heap).size();
        heaps.get(heap).clear();
        house[2]++;
        return size;
    }

    public int heapCopy(int heap, int into) {
        heap(heap);
        heap(into);
        heaps.set(into, new ArrayList<>(heaps.get(heap)));
        house[2]++;
        return heaps.get(heap).size();
    }

    public int heapSize(int heap) {
        heap(heap);
        return heaps.get(heap).size();
    }

    public int heapAt(int heap, int at) {
        heap(heap);
        if (at < 0 || at > 15) {
            throw new IndexOutOfBoundsException();
        }
        return at < heaps.get(heap).size() ? heaps.get(heap).get(at) : nothing();
    }

    private BigInteger productOf(int heap) {
        BigInteger product = BigInteger.ONE;
        for (int factor : heaps.get(heap)) {
            product = product.multiply(BigInteger.valueOf(factor));
        }
        return product;
    }

    private double sumOf(int heap, boolean isTen) {
        double sum = 0;
        for (int factor : heaps.get(heap)) {
            sum += log(factor, isTen);
        }
        return sum;
    }

    public String heapProduct(int heap) {
        heap(heap);
        return productOf(heap).toString();
    }

    private static boolean isApart(BigDecimal one, BigDecimal other) {
        return one.max(other).subtract(one.min(other)).multiply(new BigDecimal(APART)).compareTo(one.min(other)) > 0;
    }

    private boolean isApartFrom(int heap, int base) {
        for (int power = 0; power <= 260; power++) {
            BigDecimal line = new BigDecimal(BigInteger.valueOf(base).pow(power));
            if (!isApart(new BigDecimal(productOf(heap)), line)) {
                return false;
            }
        }
        return true;
    }

    private int orderOfHeaps(int one, int other, boolean isTen) {
        boolean isApart = isApart(new BigDecimal(productOf(one)), new BigDecimal(productOf(other)));
        return isApart ? Double.compare(sumOf(one, isTen), sumOf(other, isTen)) : -9;
    }

    private int counted(int told) {
        return told == -9 ? nothing() : told;
    }

    public int heapOrder(int one, int other, boolean isTen) {
        heap(one);
        heap(other);
        return counted(orderOfHeaps(one, other, isTen));
    }

    public int heapAgainst(int heap, int cell, boolean isTen) {
        heap(heap);
        cells(cell);
        if (!isApart(new BigDecimal(productOf(heap)), new BigDecimal(numbers[cell]))) {
            return nothing();
        }
        return Double.compare(sumOf(heap, isTen), log(numbers[cell], isTen));
    }

    private int digitsOf(int heap) {
        return isApartFrom(heap, 10) ? (int) sumOf(heap, true) + 1 : -9;
    }

    private int binaryDigitsOf(int heap) {
        return isApartFrom(heap, 2) ? (int) (sumOf(heap, false) / StrictMath.log(2)) + 1 : -9;
    }

    public int heapDigits(int heap) {
        heap(heap);
        return counted(digitsOf(heap));
    }

    public int heapBinaryDigits(int heap) {
        heap(heap);
        return counted(binaryDigitsOf(heap));
    }

    public int house(int what) {
        let(what >= 0 && what <= 4);
        return house[what];
    }

    public int knock() {
        return ++house[4];
    }

    public boolean isSound() {
        return true;
    }

    public long digest() {
        int[] counts = house.clone();
        List<Long> values = new ArrayList<>();
        for (int cell = 0; cell < 8; cell++) {
            values.addAll(List.of((long) numberUpper(cell), (long) digits(cell), (long) wholeOf(cell), (long) powerOf(cell)));
        }
        for (int cell = 0; cell < 8; cell++) {
            if (isWhole(numbers[cell])) {
                values.addAll(List.of((long) binaryDigits(cell), (long) primesOf((int) numbers[cell]).size()));
            }
        }
        for (int cell = 0; cell < 8; cell++) {
            values.addAll(List.of((long) answerUpper(cell), (long) answerFloor(cell), (long) answerPlaces(cell, 9),
                (long) answerFind(cell, false), (long) answerFind(cell, true)));
        }
        for (int one = 0; one < 8; one++) {
            for (int other = one + 1; other < 8; other++) {
                values.add((long) answerOrder(one, other, 0));
            }
        }
        for (int heap = 0; heap < 4; heap++) {
            values.add((long) heaps.get(heap).size());
            for (int factor : heaps.get(heap)) {
                values.add((long) factor);
            }
            values.addAll(List.of((long) digitsOf(heap), (long) binaryDigitsOf(heap)));
        }
        for (int one = 0; one < 4; one++) {
            for (int other = one + 1; other < 4; other++) {
                values.add((long) orderOfHeaps(one, other, false));
            }
        }
        System.arraycopy(counts, 0, house, 0, 5);
        for (int count : counts) {
            values.add((long) count);
        }
        values.add(1L);
        long sum = 7920;
        for (long value : values) {
            sum = sum * 31 + value;
        }
        return sum;
    }
}
