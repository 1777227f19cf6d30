/** Each sentence of sections 3 to 5 and of promises 27 to 39 that names a boundary case, by itself. */
final class TellingBoundsTest {
    private static final int NO_POWER = Given.NO_POWER;

    private TellingBoundsTest() {
    }

    public static void main(String[] args) {
        digitsAroundEachTen();
        digitsBelowOne();
        digitsAtTheEnds();
        binaryDigitsAroundEachTwo();
        binaryDigitsOfNoWhole();
        powersByLogs();
        digitsInAroundEachPower();
        quotientsOfTheLeastAndTheGreatest();
        quotientsThatAreWhole();
        quotientsNearALine();
        quotientsOfWhatHasNone();
        basesFrom2To17();
        isTenthAlways();
        mirrorOfPowers();
        stepsAtTheEnds();
        stepsToAndFromWholeOnes();
        stepsNearALine();
        stepsOfWhatHasNone();
        stepSoundAtTheEnds();
        primesOfTheLeastAndTheGreatest();
        primesOfNoWhole();
        primesNearAtTheEnds();
        pairsUpTo65536();
        pairsOfNoWhole();
        factorialsFrom0To100();
        Check.end();
    }

    private static void dueDigits(String number, int due) {
        Factorweights on = Given.numbers(number);
        Check.dueTold(on, "27: " + number, () -> on.digits(0), due);
    }

    private static void digitsAroundEachTen() {
        dueDigits("1", 1);
        int digits = 1;
        for (int ten = 10; ten <= 10000; ten *= 10) {
            dueDigits(String.valueOf(ten - 1), digits);
            digits++;
            dueDigits(String.valueOf(ten), digits);
            dueDigits(String.valueOf(ten + 1), digits);
        }
        dueDigits("65535", 5);
        dueDigits("65536", 5);
    }

    /** 0.5, 0.25, 0.125; 0.0625, 0.03125, 0.015625; 0.0078125; 2^-10 is 0.0009765625. */
    private static void digitsBelowOne() {
        dueDigits("2^-1", 0);
        dueDigits("2^-2", 0);
        dueDigits("2^-3", 0);
        dueDigits("2^-4", -1);
        dueDigits("2^-5", -1);
        dueDigits("2^-6", -1);
        dueDigits("2^-7", -2);
        dueDigits("2^-9", -2);
        dueDigits("2^-10", -3);
        dueDigits("2^-30", -9);
        dueDigits("2^-33", -9);
        dueDigits("2^-34", -10);
    }

    private static void digitsAtTheEnds() {
        dueDigits("2^17", 6);
        dueDigits("2^19", 6);
        dueDigits("2^20", 7);
        dueDigits("2^31", 10);
        dueDigits("2^63", 19);
        dueDigits("2^1000", 302);
        dueDigits("2^-1000", -301);
        Factorweights on = Given.numbers("2^-30");
        on.digits(0);
        Check.due("27: -9 that is told is not counted", on.house(3), 0);
        Check.dueIndex(on, "27: cell -1", () -> on.digits(-1));
    }

    private static void binaryDigitsAroundEachTwo() {
        for (int k = 0; k <= 16; k++) {
            Factorweights on = Given.numbers("2^" + k);
            Check.due("28: 2^" + k, on.binaryDigits(0), k + 1);
            if (k > 0) {
                on.putWhole(0, (1 << k) - 1);
                Check.due("28: 2^" + k + " - 1", on.binaryDigits(0), k);
            }
            if (k > 0 && k < 16) {
                on.putWhole(0, (1 << k) + 1);
                Check.due("28: 2^" + k + " + 1", on.binaryDigits(0), k + 1);
            }
        }
    }

    private static void binaryDigitsOfNoWhole() {
        Factorweights on = Given.numbers("2^17", "2^-1", "2^1000", "2^-1000");
        for (int cell = 0; cell < 4; cell++) {
            int at = cell;
            Check.dueNothing(on, "28: none in cell " + cell, () -> on.binaryDigits(at));
        }
        Check.dueIndex(on, "28: cell -1", () -> on.binaryDigits(-1));
    }

    private static void powersByLogs() {
        for (int k : new int[] {-1000, -999, -10, -9, -8, -1, 0, 1, 15, 16, 17, 999, 1000}) {
            Factorweights on = Given.numbers("2^" + k);
            Check.dueTold(on, "29: 2^" + k, () -> on.powerByLogs(0), k);
        }
        for (String none : new String[] {"3", "65535", "32769", "10"}) {
            Factorweights on = Given.numbers(none);
            Check.dueTold(on, "29: none at " + none + ", uncounted", () -> on.powerByLogs(0), NO_POWER);
        }
        Factorweights on = new Factorweights();
        Check.dueIndex(on, "29: cell 8", () -> on.powerByLogs(8));
    }

    private static void digitsInAroundEachPower() {
        for (int base = 2; base <= 17; base++) {
            int digits = 1;
            for (int power = base; power <= 4096; power *= base) {
                Factorweights on = Given.numbers(String.valueOf(power - 1), String.valueOf(power));
                Check.due("30: " + (power - 1) + " by " + base, on.digitsIn(0, base), digits);
                digits++;
                Check.due("30: " + power + " by " + base, on.digitsIn(1, base), digits);
            }
            Factorweights on = Given.numbers("1", "4096");
            Check.due("30: 1 by " + base, on.digitsIn(0, base), 1);
            Check.due("30: 4096 by " + base, on.digitsIn(1, base), digits);
        }
    }

    private static void dueQuotient(int n, int base, int due) {
        Factorweights on = Given.numbers(String.valueOf(n));
        Check.dueTold(on, "31: " + n + " by " + base, () -> on.quotient(0, base), due);
    }

    private static void quotientsOfTheLeastAndTheGreatest() {
        for (int base = 2; base <= 17; base++) {
            dueQuotient(1, base, 0);
        }
        dueQuotient(2, 17, 244651);
        dueQuotient(4096, 2, 12000000);
        dueQuotient(4096, 10, 3612360);
        dueQuotient(4096, 17, 2935807);
        dueQuotient(4095, 2, 11999648);
    }

    private static void quotientsThatAreWhole() {
        for (int base = 2; base <= 17; base++) {
            int due = 0;
            for (int power = base; power <= 4096; power *= base) {
                due += 1000000;
                dueQuotient(power, base, due);
            }
        }
        dueQuotient(4095, 16, 2999912);
        dueQuotient(16, 17, 978602);
        dueQuotient(18, 17, 1020174);
        dueQuotient(288, 17, 1998777);
        dueQuotient(290, 17, 2001219);
        dueQuotient(2186, 3, 6999584);
    }

    /** The nearest ones to where the nearest whole number changes: just below it, and just above it. */
    private static void quotientsNearALine() {
        dueQuotient(686, 12, 2628218);
        dueQuotient(1210, 12, 2856596);
        dueQuotient(3421, 9, 3703622);
    }

    private static void quotientsOfWhatHasNone() {
        Factorweights on = Given.numbers("4097", "65536", "2^-1", "2^17", "2^1000", "2^-1000", "2^13", "4096");
        for (int cell = 0; cell < 7; cell++) {
            int at = cell;
            Check.dueNothing(on, "30: none in cell " + cell, () -> on.digitsIn(at, 2));
            Check.dueNothing(on, "31: none in cell " + cell, () -> on.quotient(at, 17));
        }
        Check.dueTold(on, "30: 4096 has one", () -> on.digitsIn(7, 2), 13);
        Check.dueTold(on, "31: 4096 has one", () -> on.quotient(7, 8), 4000000);
    }

    private static void basesFrom2To17() {
        Factorweights on = Given.numbers("10", "4097");
        Check.dueTold(on, "30: base 2", () -> on.digitsIn(0, 2), 4);
        Check.dueTold(on, "30: base 17", () -> on.digitsIn(0, 17), 1);
        Check.dueArgument(on, "30: base 1", () -> on.digitsIn(0, 1));
        Check.dueArgument(on, "30: base 0", () -> on.digitsIn(0, 0));
        Check.dueArgument(on, "30: base 18", () -> on.digitsIn(0, 18));
        Check.dueArgument(on, "30: base -2", () -> on.digitsIn(0, -2));
        Check.dueArgument(on, "30: base 1 goes ahead of -9", () -> on.digitsIn(1, 1));
        Check.dueIndex(on, "30: the cell is named first", () -> on.digitsIn(-1, 18));
        Check.dueArgument(on, "31: base 1", () -> on.quotient(0, 1));
        Check.dueArgument(on, "31: base 0", () -> on.quotient(0, 0));
        Check.dueArgument(on, "31: base 18", () -> on.quotient(0, 18));
        Check.dueArgument(on, "31: base 18 goes ahead of -9", () -> on.quotient(1, 18));
        Check.dueIndex(on, "31: the cell is named first", () -> on.quotient(-1, 1));
    }

    private static void isTenthAlways() {
        for (String number : new String[] {"1", "2", "10", "65535", "65536", "2^17", "2^-1", "2^1000", "2^-1000"}) {
            Factorweights on = Given.numbers(number);
            Check.dueTold(on, "32: " + number, () -> on.isTenth(0), true);
        }
        Factorweights on = new Factorweights();
        Check.dueIndex(on, "32: cell -1", () -> on.isTenth(-1));
    }

    private static void mirrorOfPowers() {
        for (int k : new int[] {-1000, -999, -1, 0, 1, 16, 17, 1000}) {
            Factorweights on = Given.numbers("2^" + k);
            Check.dueTold(on, "33: 2^" + k, () -> on.mirror(0), 1);
        }
        for (String none : new String[] {"3", "65535", "10"}) {
            Factorweights on = Given.numbers(none);
            Check.dueNothing(on, "33: none at " + none, () -> on.mirror(0));
        }
        Factorweights on = new Factorweights();
        Check.dueIndex(on, "33: cell -1", () -> on.mirror(-1));
    }

    private static void dueStep(int n, int natural, int byTen) {
        Factorweights on = Given.numbers(String.valueOf(n));
        Check.dueTold(on, "34: at " + n, () -> on.step(0, false), natural);
        Check.dueTold(on, "34: at " + n + ", by ten", () -> on.step(0, true), byTen);
    }

    private static void stepsAtTheEnds() {
        dueStep(1, 693147180, 301029995);
        dueStep(2, 405465108, 176091259);
        dueStep(65534, 15259, 6626);
        dueStep(65535, 15258, 6626);
        Factorweights on = Given.numbers("2^15", "2^0");
        Check.due("34: at the POWER 2^15", on.step(0, false), 30517);
        Check.due("34: at the POWER 2^0", on.step(1, true), 301029995);
    }

    private static void stepsToAndFromWholeOnes() {
        dueStep(9, 105360515, 45757490);
        dueStep(10, 95310179, 41392685);
        dueStep(99, 10050335, 4364805);
        dueStep(100, 9950330, 4321373);
        dueStep(999, 1000500, 434511);
        dueStep(1000, 999500, 434077);
        dueStep(9999, 100005, 43431);
        dueStep(10000, 99995, 43427);
    }

    /** The nearest ones to a line over 10^9: at 39062 just above it, at 9509 just below, by ten at 23028 just above. */
    private static void stepsNearALine() {
        dueStep(39062, 25600, 11117);
        dueStep(9509, 105157, 45669);
        dueStep(23028, 43424, 18859);
    }

    private static void stepsOfWhatHasNone() {
        Factorweights on = Given.numbers("65536", "2^16", "2^17", "2^-1", "2^1000", "2^-1000");
        for (int cell = 0; cell < 6; cell++) {
            int at = cell;
            Check.dueNothing(on, "34: none in cell " + cell, () -> on.step(at, at % 2 == 0));
            Check.dueNothing(on, "34: none in cell " + cell + ", the other KIND", () -> on.step(at, at % 2 != 0));
            Check.dueNothing(on, "35: none in cell " + cell, () -> on.stepSound(at));
        }
        Check.dueIndex(on, "34: cell -1", () -> on.step(-1, false));
        Check.dueIndex(on, "34: cell 8, ahead of -9", () -> on.step(8, true));
        Check.dueIndex(on, "35: cell 8", () -> on.stepSound(8));
    }

    /** At 65534 the next STEP is the last one, at 65535 there is no next one. */
    private static void stepSoundAtTheEnds() {
        for (String number : new String[] {"1", "2", "9", "9999", "65533", "65534", "65535", "2^0", "2^15"}) {
            Factorweights on = Given.numbers(number);
            Check.dueTold(on, "35: at " + number, () -> on.stepSound(0), 1);
        }
    }

    private static void duePrimes(int whole, String due) {
        Factorweights on = Given.numbers(String.valueOf(whole));
        Check.dueTold(on, "36: " + whole, () -> on.primes(0), due);
    }

    private static void primesOfTheLeastAndTheGreatest() {
        duePrimes(1, "");
        duePrimes(2, "2");
        duePrimes(3, "3");
        duePrimes(4, "2*2");
        duePrimes(6, "2*3");
        duePrimes(9, "3*3");
        duePrimes(65521, "65521");
        duePrimes(65535, "3*5*17*257");
        duePrimes(65534, "2*7*31*151");
        duePrimes(63001, "251*251");
        duePrimes(32768, "2*2*2*2*2*2*2*2*2*2*2*2*2*2*2");
        duePrimes(49152, "2*2*2*2*2*2*2*2*2*2*2*2*2*2*3");
        duePrimes(65536, "2*2*2*2*2*2*2*2*2*2*2*2*2*2*2*2");
        Factorweights on = Given.numbers("2^16", "2^0");
        Check.due("36: 16 of the POWER 2^16", on.primes(0).length(), 31);
        Check.due("36: none of the POWER 2^0", on.primes(1), "");
        Check.due("36: that is not a -9", on.house(3), 0);
    }

    private static void primesOfNoWhole() {
        Factorweights on = Given.numbers("2^17", "2^-1", "2^1000", "2^-1000");
        for (int cell = 0; cell < 4; cell++) {
            int at = cell;
            Check.dueNothing(on, "36: none in cell " + cell, () -> on.primes(at));
            Check.dueNothing(on, "37: none in cell " + cell, () -> on.primesNear(at, at % 2 == 0));
        }
        Check.due("36: the -9 is a text", on.primes(0), "-9");
        Check.dueIndex(on, "36: cell -1", () -> on.primes(-1));
        Check.dueIndex(on, "37: cell -1", () -> on.primesNear(-1, false));
    }

    private static void primesNearAtTheEnds() {
        for (String number : new String[] {"1", "2", "4", "65521", "65535", "65536", "2^0", "2^16", "59049"}) {
            Factorweights on = Given.numbers(number);
            Check.dueTold(on, "37: " + number, () -> on.primesNear(0, false), 1);
            Check.dueTold(on, "37: " + number + ", by ten", () -> on.primesNear(0, true), 1);
        }
    }

    private static void duePair(String one, String other, boolean isNear) {
        Factorweights on = Given.numbers(one, other);
        for (int kind = 0; kind < 2; kind++) {
            boolean isTen = kind == 1;
            String call = "38: " + one + " and " + other + (isTen ? ", by ten" : "");
            if (isNear) {
                Check.dueTold(on, call, () -> on.pairNear(0, 1, isTen), 1);
                Check.dueTold(on, call + ", turned", () -> on.pairNear(1, 0, isTen), 1);
            } else {
                Check.dueNothing(on, call, () -> on.pairNear(0, 1, isTen));
                Check.dueNothing(on, call + ", turned", () -> on.pairNear(1, 0, isTen));
            }
        }
    }

    private static void pairsUpTo65536() {
        duePair("1", "1", true);
        duePair("1", "65536", true);
        duePair("2", "32768", true);
        duePair("256", "256", true);
        duePair("255", "257", true);
        duePair("3", "21845", true);
        duePair("3", "21846", false);
        duePair("2", "32769", false);
        duePair("256", "257", false);
        duePair("2", "65536", false);
        duePair("32768", "65536", false);
        duePair("65536", "65536", false);
        duePair("65535", "65535", false);
        duePair("46341", "46341", false);
        Factorweights on = Given.numbers("256", "257");
        Check.due("38: a cell and itself", on.pairNear(0, 0, false), 1);
        Check.due("38: too great a cell and itself", on.pairNear(1, 1, false), -9);
    }

    private static void pairsOfNoWhole() {
        duePair("1", "2^17", false);
        duePair("1", "2^-1", false);
        duePair("2", "2^-1", false);
        duePair("2^1000", "2^-1000", false);
        duePair("2^17", "2^17", false);
        Factorweights on = Given.numbers("2^-1");
        Check.dueIndex(on, "38: one -1", () -> on.pairNear(-1, 0, false));
        Check.dueIndex(on, "38: other -1, ahead of -9", () -> on.pairNear(0, -1, false));
        Check.dueIndex(on, "38: other 8, ahead of -9", () -> on.pairNear(0, 8, true));
    }

    /** n, how many digits, how many binary digits. */
    private static void factorialsFrom0To100() {
        int[][] dues = {{0, 1, 1}, {1, 1, 1}, {2, 1, 2}, {3, 1, 3}, {4, 2, 5}, {5, 3, 7}, {6, 3, 10}, {7, 4, 13}, {8, 5, 16},
            {9, 6, 19}, {10, 7, 22}, {11, 8, 26}, {24, 24, 80}, {25, 26, 84}, {69, 99, 327}, {70, 101, 333},
            {99, 156, 519}, {100, 158, 525}};
        Factorweights on = new Factorweights();
        for (int[] due : dues) {
            Check.dueTold(on, "39: " + due[0], () -> on.factorialDigits(due[0], false), due[1]);
            Check.dueTold(on, "39: " + due[0] + " by twos", () -> on.factorialDigits(due[0], true), due[2]);
        }
        Check.dueArgument(on, "39: -1", () -> on.factorialDigits(-1, true));
        Check.dueArgument(on, "39: 101", () -> on.factorialDigits(101, false));
        Check.dueArgument(on, "39: 2147483647", () -> on.factorialDigits(2147483647, true));
        Check.dueArgument(on, "39: -2147483648", () -> on.factorialDigits(-2147483648, false));
    }
}
