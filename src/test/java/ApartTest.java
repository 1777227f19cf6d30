import java.math.BigInteger;
import java.util.ArrayList;
import java.util.Arrays;
import java.util.List;
import java.util.Random;

/**
 * Where APART begins: two numbers that differ by d are APART just if the lesser one is below d * 2^40. For each line
 * the nearest numbers on both sides of that bound which HEAPS can hold are tried, and both again times other FACTORS,
 * as whether they are APART hangs on how many times the lesser one the greater one is, and on nothing else.
 */
final class ApartTest {
    private static final int FAR = 1000000;
    /** The most FACTORS with which both are multiplied. */
    private static final int MORE = 5;
    private static final int DRAWN = 60;

    /** How many binary digits the program takes from one another at once. */
    private static final int TAKEN_AT_ONCE = 30;
    /** FACTORS of two PRODUCTS, those of the lesser one first. Such pairs are rare: these were looked for by a script. */
    private static final int[][][] ENDS_DIFFER_BY_ONE = {
        {{6615, 15067, 6767, 1223, 8369, 10957}, {65536, 65536, 14175, 37297, 33311}},
        {{16317, 83, 4943, 6977, 49477, 54469}, {65536, 65536, 2478, 109, 6197, 17509}},
        {{33957, 6149, 151, 2269, 3769, 44867}, {65536, 32768, 8595, 251, 907, 2879}},
    };

    private ApartTest() {
    }

    public static void main(String[] args) {
        for (long gap : new long[] {1, 2, 3, 5, 8, 13, 100}) {
            orderAroundTheBound(gap);
        }
        for (int tens = 14; tens <= 16; tens++) {
            digitsAroundTheBound(tens);
        }
        for (int twos = 46; twos <= 60; twos++) {
            binaryDigitsAroundTheBound(twos);
        }
        for (int[][] pair : ENDS_DIFFER_BY_ONE) {
            orderWhereEndsDifferByOne(pair[0], pair[1]);
        }
        Check.end();
    }

    /** The FACTORS of a HEAP that has this PRODUCT; null if it has a PRIME above 65536. */
    private static int[] split(long product) {
        List<Integer> factors = new ArrayList<>();
        long rest = product;
        long factor = 1;
        for (int prime = 2; prime <= 65536 && rest > 1; prime++) {
            while (rest % prime == 0) {
                rest /= prime;
                if (factor * prime > 65536) {
                    factors.add((int) factor);
                    factor = 1;
                }
                factor *= prime;
            }
        }
        factors.add((int) factor);
        return rest == 1 ? factors.stream().mapToInt(Integer::intValue).toArray() : null;
    }

    private static int[] longer(int[] factors, int[] more) {
        int[] row = Arrays.copyOf(factors, factors.length + more.length);
        System.arraycopy(more, 0, row, factors.length, more.length);
        return row;
    }

    /** FACTORS whose PRODUCT is base^power; none of them is above base^most. */
    private static int[] powersOf(int base, int power, int most) {
        int[] row = new int[MORE];
        Arrays.fill(row, 1);
        for (int count = 0; count < power; count++) {
            row[count / most] *= base;
        }
        return row;
    }

    private static int[] drawn(Random random) {
        int[] row = new int[1 + random.nextInt(MORE)];
        for (int at = 0; at < row.length; at++) {
            row[at] = 1 + random.nextInt(65536 >> random.nextInt(16));
        }
        return row;
    }

    private static void orderAroundTheBound(long gap) {
        long bound = gap << 40;
        dueOrder(lesserFrom(bound - 1, -1, gap), gap, true);
        // At the bound itself the greater one would be gap * (2^40 + 1), which has too great a PRIME.
        dueOrder(lesserFrom(bound, 1, gap), gap, false);
    }

    private static long lesserFrom(long start, int step, long gap) {
        long lesser = start;
        for (int count = 0; count < FAR && (split(lesser) == null || split(lesser + gap) == null); count++) {
            lesser += step;
        }
        return lesser;
    }

    private static void dueOrder(long lesser, long gap, boolean isApart) {
        int[] one = split(lesser);
        int[] other = split(lesser + gap);
        Factorweights on = Given.heaps(one, other);
        Check.due("47: the lesser one", on.heapProduct(0), String.valueOf(lesser));
        Check.due("47: the greater one", on.heapProduct(1), String.valueOf(lesser + gap));
        String call = "48: " + lesser + " and " + gap + " more";
        Random random = new Random(lesser);
        dueOrder(call, on, isApart);
        for (int count = 0; count < DRAWN; count++) {
            int[] more = drawn(random);
            dueOrder(call + ", times " + Arrays.toString(more), Given.heaps(longer(one, more), longer(other, more)), isApart);
        }
        for (int power = 0; power <= 16 * MORE; power++) {
            int[] more = powersOf(2, power, 16);
            dueOrder(call + ", times 2^" + power, Given.heaps(longer(one, more), longer(other, more)), isApart);
        }
    }

    private static void dueOrder(String call, Factorweights on, boolean isApart) {
        for (int kind = 0; kind < 2; kind++) {
            Check.due(call + ", KIND " + kind, on.heapOrder(0, 1, kind == 1), isApart ? -1 : -9);
            Check.due(call + ", turned, KIND " + kind, on.heapOrder(1, 0, kind == 1), isApart ? 1 : -9);
        }
        Check.due(call + ": what was not told", on.house(3), isApart ? 0 : 4);
    }

    /**
     * The last digits of the lesser PRODUCT are by just 1 above those of the greater one. If that 1 is not borrowed
     * from the digits ahead, the difference grows by so much that both seem to be APART.
     */
    private static void orderWhereEndsDifferByOne(int[] one, int[] other) {
        BigInteger lesser = productOf(one);
        BigInteger gap = productOf(other).subtract(lesser);
        BigInteger unborrowed = gap.add(BigInteger.ONE.shiftLeft(TAKEN_AT_ONCE));
        String pair = lesser + " and " + gap + " more";
        Check.due("48: the ends of " + pair, unborrowed.add(BigInteger.ONE).getLowestSetBit() >= TAKEN_AT_ONCE, true);
        Check.due("48: APART by so much, " + pair, gap.shiftLeft(40).compareTo(lesser) > 0, false);
        Check.due("48: APART by more, " + pair, unborrowed.shiftLeft(40).compareTo(lesser) > 0, true);
        dueOrder("48: " + pair, Given.heaps(one, other), false);
    }

    private static BigInteger productOf(int[] factors) {
        BigInteger product = BigInteger.ONE;
        for (int factor : factors) {
            product = product.multiply(BigInteger.valueOf(factor));
        }
        return product;
    }

    private static void digitsAroundTheBound(int tens) {
        long line = 1;
        for (int ten = 0; ten < tens; ten++) {
            line *= 10;
        }
        long first = firstApartBelow(line);
        dueDigits(productFrom(line - first, -1), tens, tens);
        dueDigits(productFrom(line - first + 1, 1), tens, -9);
        first = firstApartAbove(line);
        dueDigits(productFrom(line + first, 1), tens, tens + 1);
        dueDigits(productFrom(line + first - 1, -1), tens, -9);
    }

    private static void binaryDigitsAroundTheBound(int twos) {
        long line = 1L << twos;
        long first = firstApartBelow(line);
        dueBinaryDigits(productFrom(line - first, -1), twos, twos);
        dueBinaryDigits(productFrom(line - first + 1, 1), twos, -9);
        first = firstApartAbove(line);
        dueBinaryDigits(productFrom(line + first, 1), twos, twos + 1);
        dueBinaryDigits(productFrom(line + first - 1, -1), twos, -9);
    }

    /** The least d for which line - d and the line are APART: d * 2^40 > line - d. */
    private static long firstApartBelow(long line) {
        return line / ((1L << 40) + 1) + 1;
    }

    /** The least d for which the line and line + d are APART: d * 2^40 > line. */
    private static long firstApartAbove(long line) {
        return (line >> 40) + 1;
    }

    private static long productFrom(long start, int step) {
        long product = start;
        for (int count = 0; count < FAR && split(product) == null; count++) {
            product += step;
        }
        return product;
    }

    private static void dueDigits(long product, int tens, int due) {
        int[] factors = split(product);
        for (int power = 0; power <= 4 * MORE; power++) {
            Factorweights on = Given.heaps(longer(factors, powersOf(10, power, 4)));
            String call = "50: " + product + " at 10^" + tens + ", times 10^" + power;
            Check.due(call, on.heapDigits(0), due == -9 ? -9 : due + power);
            Check.due(call + ": what was not told", on.house(3), due == -9 ? 1 : 0);
        }
    }

    private static void dueBinaryDigits(long product, int twos, int due) {
        int[] factors = split(product);
        for (int power = 0; power <= 16 * MORE; power++) {
            Factorweights on = Given.heaps(longer(factors, powersOf(2, power, 16)));
            String at = product + " at 2^" + twos + ", times 2^" + power;
            Check.due("51: " + at, on.heapBinaryDigits(0), due == -9 ? -9 : due + power);
            dueAgainst(on, "49: " + at, twos + power, due == -9 ? -9 : due == twos ? -1 : 1);
            Check.due(at + ": what was not told", on.house(3), due == -9 ? 3 : 0);
        }
    }

    private static void dueAgainst(Factorweights on, String call, int twos, int due) {
        on.putPower(0, twos);
        on.putPower(1, twos - 1);
        on.putPower(2, twos + 1);
        for (int kind = 0; kind < 2; kind++) {
            Check.due(call + ", KIND " + kind, on.heapAgainst(0, 0, kind == 1), due);
            Check.due(call + ", against half of it, KIND " + kind, on.heapAgainst(0, 1, kind == 1), 1);
            Check.due(call + ", against twice of it, KIND " + kind, on.heapAgainst(0, 2, kind == 1), -1);
        }
    }
}
