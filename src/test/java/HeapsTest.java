/** Promises 40 to 51: the HEAPS. */
final class HeapsTest {
    /** 10^20 - 1, which is not APART from 10^20. */
    private static final int[] BELOW_TEN_TO_20 = {3, 3, 11, 41, 101, 271, 3541, 9091, 27961};
    /** 10^12 - 1, which is just APART from 10^12, as 2^40 is greater. */
    private static final int[] BELOW_TEN_TO_12 = {27, 7, 11, 13, 37, 101, 9901};
    /** 2^42 - 1, which is not APART from 2^42. */
    private static final int[] BELOW_TWO_TO_42 = {9, 49, 43, 127, 337, 5419};
    /** 2^40 - 1, which is just APART from 2^40. */
    private static final int[] BELOW_TWO_TO_40 = {3, 25, 11, 17, 31, 41, 61681};
    /** 2^42 + 1, which is not APART from 2^42. */
    private static final int[] ABOVE_TWO_TO_42 = {5, 13, 29, 113, 1429, 14449};

    private HeapsTest() {
    }

    public static void main(String[] args) {
        heapAdd();
        heapTake();
        heapPrimes();
        heapClear();
        heapCopy();
        heapSizeAndAt();
        heapProduct();
        heapOrder();
        heapAgainst();
        heapDigits();
        heapBinaryDigits();
        Check.end();
    }

    private static void fill(Factorweights on, int heap, int... factors) {
        on.heapClear(heap);
        for (int factor : factors) {
            on.putWhole(7, factor);
            on.heapAdd(heap, 7);
        }
    }

    private static void heapAdd() {
        Factorweights on = new Factorweights();
        on.putWhole(0, 65536);
        for (int size = 1; size <= 16; size++) {
            Check.due("40: the FACTOR " + size, on.heapAdd(3, 0), size);
        }
        Check.due("40: acts", on.house(2), 16);
        Check.dueNothing(on, "40: a full one", () -> on.heapAdd(3, 0));
        on.putPower(1, -1);
        on.putPower(2, 17);
        Check.dueNothing(on, "40: 2^-1", () -> on.heapAdd(0, 1));
        Check.dueNothing(on, "40: 2^17", () -> on.heapAdd(0, 2));
        Check.dueIndex(on, "40: heap 4", () -> on.heapAdd(4, 0));
        Check.dueIndex(on, "40: cell 8", () -> on.heapAdd(0, 8));
        Check.dueIndex(on, "40: cell 8 ahead of -9", () -> on.heapAdd(3, 8));
    }

    private static void heapTake() {
        Factorweights on = new Factorweights();
        fill(on, 1, 5, 6);
        Check.due("41: the last one", on.heapTake(1), 6);
        Check.due("41: the first one", on.heapTake(1), 5);
        Check.due("41: acts", on.house(2), 5);
        Check.dueNothing(on, "41: none", () -> on.heapTake(1));
        Check.dueIndex(on, "41: heap 4", () -> on.heapTake(4));
        Check.dueIndex(on, "41: heap -1", () -> on.heapTake(-1));
    }

    private static void heapPrimes() {
        Factorweights on = new Factorweights();
        fill(on, 2, 5, 6, 7, 8);
        on.putWhole(0, 60);
        Check.due("42: of 60", on.heapPrimes(2, 0), 4);
        Check.due("42: the first", on.heapAt(2, 0), 2);
        Check.due("42: the third", on.heapAt(2, 2), 3);
        Check.due("42: the last", on.heapAt(2, 3), 5);
        Check.due("42: of 1", on.heapPrimes(2, 1), 0);
        on.putWhole(0, 65536);
        Check.due("42: of 65536", on.heapPrimes(2, 0), 16);
        Check.due("42: acts", on.house(2), 8);
        on.putPower(1, -1);
        Check.dueNothing(on, "42: of 2^-1", () -> on.heapPrimes(2, 1));
        Check.dueIndex(on, "42: heap 4", () -> on.heapPrimes(4, 0));
        Check.dueIndex(on, "42: cell 8", () -> on.heapPrimes(0, 8));
    }

    private static void heapClear() {
        Factorweights on = new Factorweights();
        fill(on, 0, 5, 6, 7);
        Check.due("43: three", on.heapClear(0), 3);
        Check.due("43: none", on.heapClear(0), 0);
        Check.due("43: acts", on.house(2), 6);
        Check.dueIndex(on, "43: heap 4", () -> on.heapClear(4));
        Check.dueIndex(on, "43: heap -1", () -> on.heapClear(-1));
    }

    private static void heapCopy() {
        Factorweights on = new Factorweights();
        fill(on, 0, 5, 6, 7);
        fill(on, 3, 1, 2, 3, 4);
        Check.due("44: three", on.heapCopy(0, 3), 3);
        Check.due("44: has them", on.heapProduct(3), "210");
        Check.due("44: their size", on.heapSize(3), 3);
        Check.due("44: into itself", on.heapCopy(0, 0), 3);
        Check.due("44: stays", on.heapProduct(0), "210");
        Check.due("44: none", on.heapCopy(1, 0), 0);
        Check.due("44: acts", on.house(2), 12);
        on.heapTake(3);
        Check.due("44: a row of its own", on.heapProduct(3), "30");
        Check.dueIndex(on, "44: heap 4", () -> on.heapCopy(4, 0));
        Check.dueIndex(on, "44: into 4", () -> on.heapCopy(0, 4));
        Check.dueIndex(on, "44: into -1", () -> on.heapCopy(0, -1));
    }

    private static void heapSizeAndAt() {
        Factorweights on = new Factorweights();
        fill(on, 3, 5, 65536);
        Check.dueTold(on, "45: two", () -> on.heapSize(3), 2);
        Check.dueIndex(on, "45: heap 4", () -> on.heapSize(4));
        Check.dueIndex(on, "45: heap -1", () -> on.heapSize(-1));
        Check.dueTold(on, "46: at 0", () -> on.heapAt(3, 0), 5);
        Check.dueTold(on, "46: at 1", () -> on.heapAt(3, 1), 65536);
        Check.dueNothing(on, "46: at 2", () -> on.heapAt(3, 2));
        Check.dueNothing(on, "46: at 15", () -> on.heapAt(3, 15));
        Check.dueIndex(on, "46: at 16", () -> on.heapAt(3, 16));
        Check.dueIndex(on, "46: at -1", () -> on.heapAt(3, -1));
        Check.dueIndex(on, "46: heap 4", () -> on.heapAt(4, 0));
    }

    private static void heapProduct() {
        Factorweights on = new Factorweights();
        Check.dueTold(on, "47: none", () -> on.heapProduct(0), "1");
        int[] greatest = new int[16];
        java.util.Arrays.fill(greatest, 65536);
        fill(on, 0, greatest);
        fill(on, 1, 10000, 10000, 10000, 1001);
        fill(on, 2, BELOW_TEN_TO_20);
        Check.dueTold(on, "47: 2^256", () -> on.heapProduct(0), java.math.BigInteger.TWO.pow(256).toString());
        Check.dueTold(on, "47: zeros", () -> on.heapProduct(1), "1001000000000000");
        Check.dueTold(on, "47: nines", () -> on.heapProduct(2), "99999999999999999999");
        Check.dueIndex(on, "47: heap 4", () -> on.heapProduct(4));
        Check.dueIndex(on, "47: heap -1", () -> on.heapProduct(-1));
    }

    private static void heapOrder() {
        Factorweights on = new Factorweights();
        fill(on, 0, BELOW_TWO_TO_42);
        fill(on, 1, 65536, 16384, 4096);
        fill(on, 2, 1, 2);
        Check.dueNothing(on, "48: 2^42 - 1 and 2^42", () -> on.heapOrder(0, 1, false));
        Check.dueNothing(on, "48: 2^42 and 2^42 - 1", () -> on.heapOrder(1, 0, true));
        Check.dueNothing(on, "48: itself", () -> on.heapOrder(2, 2, true));
        Check.dueTold(on, "48: 2 and 2^42", () -> on.heapOrder(2, 1, false), -1);
        Check.dueTold(on, "48: 2^42 and none", () -> on.heapOrder(1, 3, true), 1);
        fill(on, 0, BELOW_TWO_TO_40);
        fill(on, 1, 65536, 65536, 256);
        Check.dueTold(on, "48: 2^40 - 1 and 2^40", () -> on.heapOrder(0, 1, true), -1);
        Check.dueTold(on, "48: 2^40 and 2^40 - 1", () -> on.heapOrder(1, 0, false), 1);
        Check.dueIndex(on, "48: one 4", () -> on.heapOrder(4, 0, true));
        Check.dueIndex(on, "48: other -1", () -> on.heapOrder(0, -1, true));
    }

    private static void heapAgainst() {
        Factorweights on = new Factorweights();
        fill(on, 0, BELOW_TWO_TO_42);
        fill(on, 1, BELOW_TWO_TO_40);
        fill(on, 2, ABOVE_TWO_TO_42);
        on.putPower(0, 42);
        on.putPower(1, 40);
        on.putPower(2, -1000);
        on.putPower(3, 1000);
        on.putWhole(4, 65535);
        Check.dueNothing(on, "49: 2^42 - 1 and 2^42", () -> on.heapAgainst(0, 0, true));
        Check.dueNothing(on, "49: 2^42 + 1 and 2^42", () -> on.heapAgainst(2, 0, false));
        Check.dueTold(on, "49: 2^40 - 1 and 2^40", () -> on.heapAgainst(1, 1, false), -1);
        Check.dueTold(on, "49: 2^42 + 1 and 2^40", () -> on.heapAgainst(2, 1, true), 1);
        Check.dueTold(on, "49: and 2^-1000", () -> on.heapAgainst(1, 2, true), 1);
        Check.dueTold(on, "49: and 2^1000", () -> on.heapAgainst(1, 3, true), -1);
        againstEmptyHeap(on);
    }

    private static void againstEmptyHeap(Factorweights on) {
        on.putPower(5, -1);
        on.putPower(6, 0);
        Check.due("49: none and 2^-1", on.heapAgainst(3, 5, false), 1);
        Check.due("49: none and 1", on.heapAgainst(3, 6, false), -9);
        Check.due("49: none and 65535", on.heapAgainst(3, 4, false), -1);
        Check.dueIndex(on, "49: heap 4", () -> on.heapAgainst(4, 0, true));
        Check.dueIndex(on, "49: cell 8", () -> on.heapAgainst(0, 8, true));
    }

    private static void heapDigits() {
        Factorweights on = new Factorweights();
        fill(on, 0, BELOW_TEN_TO_20);
        fill(on, 1, BELOW_TEN_TO_12);
        fill(on, 2, 10000, 9999);
        Check.dueNothing(on, "50: none", () -> on.heapDigits(3));
        Check.dueNothing(on, "50: 10^20 - 1", () -> on.heapDigits(0));
        Check.dueTold(on, "50: 10^12 - 1", () -> on.heapDigits(1), 12);
        Check.dueTold(on, "50: 99990000", () -> on.heapDigits(2), 8);
        fill(on, 3, 10000, 100);
        Check.dueNothing(on, "50: 10^6", () -> on.heapDigits(3));
        fill(on, 3, 7);
        Check.dueTold(on, "50: 7", () -> on.heapDigits(3), 1);
        Check.dueIndex(on, "50: heap 4", () -> on.heapDigits(4));
        fill(on, 0, new int[] {65535, 65535, 65535, 65535, 65535, 65535, 65535, 65535, 65535, 65535, 65535, 65535,
            65535, 65535, 65535, 65535});
        Check.due("50: 65535^16", on.heapDigits(0), 78);
    }

    private static void heapBinaryDigits() {
        Factorweights on = new Factorweights();
        fill(on, 0, BELOW_TWO_TO_42);
        fill(on, 1, BELOW_TWO_TO_40);
        fill(on, 2, ABOVE_TWO_TO_42);
        Check.dueNothing(on, "51: none", () -> on.heapBinaryDigits(3));
        Check.dueNothing(on, "51: 2^42 - 1", () -> on.heapBinaryDigits(0));
        Check.dueNothing(on, "51: 2^42 + 1", () -> on.heapBinaryDigits(2));
        Check.dueTold(on, "51: 2^40 - 1", () -> on.heapBinaryDigits(1), 40);
        fill(on, 3, 65536, 65536);
        Check.dueNothing(on, "51: 2^32", () -> on.heapBinaryDigits(3));
        fill(on, 3, 65536, 65535);
        Check.dueTold(on, "51: 2^32 - 2^16", () -> on.heapBinaryDigits(3), 32);
        Check.dueIndex(on, "51: heap 4", () -> on.heapBinaryDigits(4));
        Check.dueIndex(on, "51: heap -1", () -> on.heapBinaryDigits(-1));
    }
}
