/** Each sentence of section 6 and of promises 40 to 51 that names a boundary case, by itself. ApartTest has APART. */
final class HeapBoundsTest {
    private HeapBoundsTest() {
    }

    public static void main(String[] args) {
        addToEmptyAndToFull();
        addWhatIsNoWhole();
        addLeastAndGreatest();
        takeFromFullToEmpty();
        primesInPlaceOfWhatItHad();
        primesOfTheLeastAndTheGreatest();
        primesOfNoWhole();
        clearEmptyAndFull();
        copyEmptyAndFull();
        copyIntoItself();
        sizesOfAll();
        placesOfEmptyHalfAndFull();
        productsOfEmptyAndFull();
        productsWithZerosInside();
        orderOfEmptyAndFull();
        orderOfTheSameProduct();
        againstTheEnds();
        againstWholeOnes();
        againstTheSame();
        digitsOfEmptyAndFull();
        digitsAroundEachTen();
        binaryDigitsOfEmptyAndFull();
        binaryDigitsAroundEachTwo();
        Check.end();
    }

    private static void addToEmptyAndToFull() {
        for (int heap = 0; heap < 4; heap++) {
            Factorweights on = Given.numbers("3", "2^17");
            int at = heap;
            for (int size = 1; size <= 16; size++) {
                Check.due("40: size " + size, on.heapAdd(heap, 0), size);
            }
            Check.dueNothing(on, "40: the 17th", () -> on.heapAdd(at, 0));
            Check.dueNothing(on, "40: the 17th, and no WHOLE one", () -> on.heapAdd(at, 1));
            Check.due("40: stays full", on.heapSize(heap), 16);
            Check.due("40: 3^16", on.heapProduct(heap), "43046721");
            Check.due("40: 16 acts", Given.counts(on), "2 0 16 2 0");
            for (int other = 0; other < 4; other++) {
                Check.due("40: another HEAP", on.heapSize(other), other == heap ? 16 : 0);
            }
        }
    }

    private static void addWhatIsNoWhole() {
        Factorweights on = Given.numbers("2^17", "2^-1", "2^1000", "2^-1000", "5");
        on.heapAdd(2, 4);
        for (int cell = 0; cell < 4; cell++) {
            int at = cell;
            Check.dueNothing(on, "40: cell " + cell, () -> on.heapAdd(2, at));
        }
        Check.due("40: it has what it had", on.heapProduct(2), "5");
        Check.dueIndex(on, "40: heap -1", () -> on.heapAdd(-1, 0));
        Check.dueIndex(on, "40: heap 4, ahead of -9", () -> on.heapAdd(4, 0));
        Check.dueIndex(on, "40: cell -1", () -> on.heapAdd(0, -1));
    }

    private static void addLeastAndGreatest() {
        Factorweights on = Given.numbers("1", "65536", "2^16", "2^0");
        for (int cell = 0; cell < 4; cell++) {
            Check.due("40: cell " + cell, on.heapAdd(3, cell), cell + 1);
        }
        Check.due("40: a 1 is a FACTOR", on.heapAt(3, 0), 1);
        Check.due("40: 65536", on.heapAt(3, 1), 65536);
        Check.due("40: the POWER 2^16", on.heapAt(3, 2), 65536);
        Check.due("40: the POWER 2^0", on.heapAt(3, 3), 1);
        on.putWhole(1, 7);
        Check.due("40: stays, whatever comes to the cell", on.heapAt(3, 1), 65536);
    }

    private static void takeFromFullToEmpty() {
        Factorweights on = new Factorweights();
        for (int factor = 1; factor <= 16; factor++) {
            on.putWhole(0, factor);
            on.heapAdd(0, 0);
        }
        for (int factor = 16; factor >= 1; factor--) {
            Check.due("41: the FACTOR " + factor, on.heapTake(0), factor);
            Check.due("41: the size", on.heapSize(0), factor - 1);
        }
        Check.dueNothing(on, "41: of an empty one", () -> on.heapTake(0));
        Check.dueNothing(on, "41: of one that was never filled", () -> on.heapTake(3));
        Check.due("41: 16 acts", on.house(2), 32);
        Check.due("41: add after it", on.heapAdd(0, 0), 1);
        Check.due("41: and take again", on.heapTake(0), 16);
        Check.dueIndex(on, "41: heap 4, ahead of -9", () -> on.heapTake(4));
        Check.dueIndex(on, "41: heap -1", () -> on.heapTake(-1));
    }

    private static void primesInPlaceOfWhatItHad() {
        Factorweights on = Given.heaps(Given.times(16, 3));
        on.putWhole(0, 60);
        Check.due("42: in place of 16", on.heapPrimes(0, 0), 4);
        Check.due("42: the size", on.heapSize(0), 4);
        Check.due("42: no more than they", on.heapProduct(0), "60");
        int[] primes = {2, 2, 3, 5};
        for (int at = 0; at < 4; at++) {
            Check.due("42: from the least one on, at " + at, on.heapAt(0, at), primes[at]);
        }
        Check.dueNothing(on, "42: behind them is none", () -> on.heapAt(0, 4));
        Check.due("42: one act", on.house(2), 1 + 16 + 1);
    }

    private static void primesOfTheLeastAndTheGreatest() {
        Factorweights on = Given.heaps(Given.times(5, 3), Given.times(5, 3), Given.times(5, 3));
        Given.put(on, 0, "1");
        Given.put(on, 1, "65536");
        Given.put(on, 2, "65521");
        Given.put(on, 3, "2^16");
        Check.due("42: of 1", on.heapPrimes(0, 0), 0);
        Check.due("42: is empty", on.heapProduct(0), "1");
        Check.due("42: of 65536", on.heapPrimes(1, 1), 16);
        Check.due("42: is full", on.heapProduct(1), "65536");
        Check.dueNothing(on, "42: so full that none more comes", () -> on.heapAdd(1, 0));
        Check.due("42: of a PRIME", on.heapPrimes(2, 2), 1);
        Check.due("42: is that", on.heapAt(2, 0), 65521);
        Check.due("42: of the POWER 2^16", on.heapPrimes(3, 3), 16);
        Check.due("42: 1 after it", on.heapPrimes(3, 0), 0);
    }

    private static void primesOfNoWhole() {
        Factorweights on = Given.heaps(Given.row(5, 7));
        String[] none = {"2^17", "2^-1", "2^1000", "2^-1000"};
        for (String number : none) {
            Given.put(on, 0, number);
            Check.dueNothing(on, "42: of " + number, () -> on.heapPrimes(0, 0));
        }
        Check.due("42: it has what it had", on.heapProduct(0), "35");
        Check.dueIndex(on, "42: heap -1, ahead of -9", () -> on.heapPrimes(-1, 0));
        Check.dueIndex(on, "42: heap 4, ahead of -9", () -> on.heapPrimes(4, 0));
        Check.dueIndex(on, "42: cell -1", () -> on.heapPrimes(0, -1));
        Check.dueIndex(on, "42: cell 8", () -> on.heapPrimes(0, 8));
    }

    private static void clearEmptyAndFull() {
        Factorweights on = Given.heaps(Given.times(16, 65536), Given.row(3));
        int acts = on.house(2);
        Check.due("43: a full one", on.heapClear(0), 16);
        Check.due("43: is empty", on.heapSize(0), 0);
        Check.due("43: its PRODUCT", on.heapProduct(0), "1");
        Check.due("43: an empty one", on.heapClear(0), 0);
        Check.due("43: one that was never filled", on.heapClear(3), 0);
        Check.due("43: another one stays", on.heapSize(1), 1);
        Check.due("43: acts, also if all stays", on.house(2), acts + 3);
        Check.due("43: none is a -9", on.house(3), 0);
        Check.dueNothing(on, "43: nothing to take", () -> on.heapTake(0));
        Check.due("43: add after it", on.heapAdd(0, 0), 1);
    }

    private static void copyEmptyAndFull() {
        Factorweights on = Given.heaps(Given.times(16, 65536), Given.row(3, 5));
        Check.due("44: full to empty", on.heapCopy(0, 3), 16);
        Check.due("44: is full", on.heapSize(3), 16);
        Check.due("44: its last", on.heapAt(3, 15), 65536);
        Check.due("44: the other one stays", on.heapSize(0), 16);
        Check.due("44: two to full", on.heapCopy(1, 3), 2);
        Check.due("44: is two", on.heapProduct(3), "15");
        Check.dueNothing(on, "44: behind them is none", () -> on.heapAt(3, 2));
        Check.due("44: empty to full", on.heapCopy(2, 0), 0);
        Check.due("44: is empty", on.heapSize(0), 0);
        Check.due("44: empty to empty", on.heapCopy(2, 0), 0);
        on.heapTake(3);
        Check.due("44: each has its own", on.heapProduct(1), "15");
    }

    private static void copyIntoItself() {
        Factorweights on = Given.heaps(Given.times(16, 3), Given.row(5, 7));
        int acts = on.house(2);
        Check.due("44: a full one", on.heapCopy(0, 0), 16);
        Check.due("44: one of two", on.heapCopy(1, 1), 2);
        Check.due("44: an empty one", on.heapCopy(2, 2), 0);
        Check.due("44: stays full", on.heapProduct(0), "43046721");
        Check.due("44: stays two", on.heapProduct(1), "35");
        Check.due("44: acts", on.house(2), acts + 3);
        Check.dueIndex(on, "44: heap -1", () -> on.heapCopy(-1, 0));
        Check.dueIndex(on, "44: both are wrong", () -> on.heapCopy(4, 4));
    }

    private static void sizesOfAll() {
        Factorweights on = Given.heaps(Given.times(16, 1), Given.times(15, 2), Given.row(65536));
        int[] sizes = {16, 15, 1, 0};
        for (int heap = 0; heap < 4; heap++) {
            int at = heap;
            Check.dueTold(on, "45: HEAP " + heap, () -> on.heapSize(at), sizes[heap]);
        }
    }

    private static void placesOfEmptyHalfAndFull() {
        Factorweights on = Given.heaps(Given.times(16, 3), Given.row(4, 5, 6));
        Check.dueTold(on, "46: the first of a full one", () -> on.heapAt(0, 0), 3);
        Check.dueTold(on, "46: the last of a full one", () -> on.heapAt(0, 15), 3);
        Check.dueTold(on, "46: the first of three", () -> on.heapAt(1, 0), 4);
        Check.dueTold(on, "46: the last of three", () -> on.heapAt(1, 2), 6);
        Check.dueNothing(on, "46: behind the last of three", () -> on.heapAt(1, 3));
        Check.dueNothing(on, "46: the last place of three", () -> on.heapAt(1, 15));
        Check.dueNothing(on, "46: the first of none", () -> on.heapAt(2, 0));
        Check.dueIndex(on, "46: at 16 of a full one", () -> on.heapAt(0, 16));
        Check.dueIndex(on, "46: at -1 of none, ahead of -9", () -> on.heapAt(2, -1));
        Check.dueIndex(on, "46: at 16 of none, ahead of -9", () -> on.heapAt(2, 16));
        Check.dueIndex(on, "46: heap -1", () -> on.heapAt(-1, 0));
        Check.dueIndex(on, "46: heap 4 and at 16", () -> on.heapAt(4, 16));
        on.heapTake(1);
        Check.dueNothing(on, "46: what was taken out", () -> on.heapAt(1, 2));
    }

    private static void dueProduct(String due, int... factors) {
        Factorweights on = Given.heaps(factors);
        Check.dueTold(on, "47: " + due, () -> on.heapProduct(0), due);
    }

    private static void productsOfEmptyAndFull() {
        dueProduct("1");
        dueProduct("1", 1);
        dueProduct("1", Given.times(16, 1));
        dueProduct("65536", 65536);
        dueProduct("4294967296", 65536, 65536);
        dueProduct("281462092005375", 65535, 65535, 65535);
        dueProduct("18446744073709551616", 65536, 65536, 65536, 65536);
        dueProduct("115792089237316195423570985008687907853269984665640564039457584007913129639936",
            Given.times(16, 65536));
        dueProduct(java.math.BigInteger.valueOf(65535).pow(16).toString(), Given.times(16, 65535));
    }

    private static void productsWithZerosInside() {
        dueProduct("10", 10);
        dueProduct("1000000000000", 10000, 10000, 10000);
        dueProduct("1" + "0".repeat(64), Given.times(16, 10000));
        dueProduct("1000000001000000000", 10000, 10000, 10, 7, 11, 13, 19, 52579);
        dueProduct("1000000000", 1000, 1000, 1000);
        dueProduct("1073741824", 32768, 32768);
    }

    private static void dueOrder(Factorweights on, int one, int other, int due) {
        String call = "48: HEAPS " + one + " and " + other;
        if (due == 0) {
            Check.dueNothing(on, call, () -> on.heapOrder(one, other, false));
            Check.dueNothing(on, call + ", by ten", () -> on.heapOrder(one, other, true));
            return;
        }
        Check.dueTold(on, call, () -> on.heapOrder(one, other, false), due);
        Check.dueTold(on, call + ", by ten", () -> on.heapOrder(one, other, true), due);
    }

    private static void orderOfEmptyAndFull() {
        Factorweights on = Given.heaps(Given.times(16, 65536), Given.times(16, 65535), Given.row(2));
        for (int one = 0; one < 4; one++) {
            for (int other = 0; other < 4; other++) {
                dueOrder(on, one, other, Integer.compare(other, one));
            }
        }
        Check.dueIndex(on, "48: one -1", () -> on.heapOrder(-1, 0, true));
        Check.dueIndex(on, "48: other 4", () -> on.heapOrder(0, 4, false));
        Check.dueIndex(on, "48: both are wrong", () -> on.heapOrder(4, -1, false));
    }

    private static void orderOfTheSameProduct() {
        Factorweights on = Given.heaps(Given.row(6, 10, 1), Given.row(60), Given.times(16, 1));
        dueOrder(on, 0, 1, 0);
        dueOrder(on, 1, 0, 0);
        dueOrder(on, 2, 3, 0);
        dueOrder(on, 3, 2, 0);
        dueOrder(on, 0, 0, 0);
        dueOrder(on, 3, 3, 0);
        dueOrder(on, 0, 2, 1);
        dueOrder(on, 3, 1, -1);
    }

    private static void dueAgainst(int due, String number, int... factors) {
        Factorweights on = Given.heaps(factors);
        Given.put(on, 0, number);
        String call = "49: " + factors.length + " FACTORS and " + number;
        if (due == 0) {
            Check.dueNothing(on, call, () -> on.heapAgainst(0, 0, false));
            Check.dueNothing(on, call + ", by ten", () -> on.heapAgainst(0, 0, true));
            return;
        }
        Check.dueTold(on, call, () -> on.heapAgainst(0, 0, false), due);
        Check.dueTold(on, call + ", by ten", () -> on.heapAgainst(0, 0, true), due);
    }

    private static void againstTheEnds() {
        dueAgainst(1, "2^-1000");
        dueAgainst(1, "2^-1");
        dueAgainst(-1, "2^1");
        dueAgainst(-1, "2^1000");
        int[] full = Given.times(16, 65536);
        dueAgainst(1, "2^-1000", full);
        dueAgainst(1, "1", full);
        dueAgainst(1, "65536", full);
        dueAgainst(1, "2^255", full);
        dueAgainst(-1, "2^257", full);
        dueAgainst(-1, "2^1000", full);
        dueAgainst(-1, "2^256", Given.times(16, 65535));
        dueAgainst(1, "2^255", Given.times(16, 65535));
        Factorweights on = new Factorweights();
        Check.dueIndex(on, "49: heap -1", () -> on.heapAgainst(-1, 0, true));
        Check.dueIndex(on, "49: heap 4, ahead of -9", () -> on.heapAgainst(4, 0, false));
        Check.dueIndex(on, "49: cell -1, ahead of -9", () -> on.heapAgainst(0, -1, true));
        Check.dueIndex(on, "49: cell 8, ahead of -9", () -> on.heapAgainst(0, 8, false));
    }

    private static void againstWholeOnes() {
        dueAgainst(-1, "65536", 65535);
        dueAgainst(1, "65535", 65536);
        dueAgainst(-1, "65535", 65534);
        dueAgainst(1, "65535", 256, 256);
        dueAgainst(-1, "3", 2);
        dueAgainst(-1, "65536");
        dueAgainst(1, "65536", 3, 21846);
    }

    private static void againstTheSame() {
        dueAgainst(0, "1");
        dueAgainst(0, "1", 1, 1, 1);
        dueAgainst(0, "65535", 3, 5, 17, 257);
        dueAgainst(0, "65536", Given.times(16, 2));
        dueAgainst(0, "2^17", 65536, 2);
        dueAgainst(0, "2^256", Given.times(16, 65536));
    }

    private static void dueDigits(int due, int... factors) {
        Factorweights on = Given.heaps(factors);
        String call = "50: " + on.heapProduct(0);
        if (due == 0) {
            Check.dueNothing(on, call, () -> on.heapDigits(0));
            return;
        }
        Check.dueTold(on, call, () -> on.heapDigits(0), due);
    }

    private static void digitsOfEmptyAndFull() {
        dueDigits(0);
        dueDigits(0, 1);
        dueDigits(0, Given.times(16, 1));
        dueDigits(78, Given.times(16, 65536));
        dueDigits(78, Given.times(16, 65535));
        dueDigits(64, Given.times(16, 9999));
        dueDigits(65, Given.times(16, 10001));
        dueDigits(0, Given.times(16, 10000));
    }

    private static void digitsAroundEachTen() {
        int digits = 1;
        for (int ten = 10; ten <= 10000; ten *= 10) {
            dueDigits(digits, ten - 1);
            digits++;
            dueDigits(0, ten);
            dueDigits(digits, ten + 1);
        }
        dueDigits(1, 2);
        dueDigits(9, 10000, 10001);
        dueDigits(8, 10000, 9999);
        dueDigits(0, 10000, 10000);
    }

    private static void dueBinaryDigits(int due, int... factors) {
        Factorweights on = Given.heaps(factors);
        String call = "51: " + on.heapProduct(0);
        if (due == 0) {
            Check.dueNothing(on, call, () -> on.heapBinaryDigits(0));
            return;
        }
        Check.dueTold(on, call, () -> on.heapBinaryDigits(0), due);
    }

    private static void binaryDigitsOfEmptyAndFull() {
        dueBinaryDigits(0);
        dueBinaryDigits(0, 1);
        dueBinaryDigits(0, Given.times(16, 1));
        dueBinaryDigits(0, Given.times(16, 65536));
        dueBinaryDigits(256, Given.times(16, 65535));
        dueBinaryDigits(241, Given.times(16, 32769));
    }

    private static void binaryDigitsAroundEachTwo() {
        dueBinaryDigits(0, 2);
        dueBinaryDigits(2, 3);
        for (int k = 2; k <= 15; k++) {
            dueBinaryDigits(k, (1 << k) - 1);
            dueBinaryDigits(0, 1 << k);
            dueBinaryDigits(k + 1, (1 << k) + 1);
        }
        dueBinaryDigits(16, 65535);
        dueBinaryDigits(0, 65536);
        dueBinaryDigits(17, 3, 21846);
        dueBinaryDigits(32, 65536, 65535);
    }
}
