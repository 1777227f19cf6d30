/** Promises 27 to 39: what logarithms tell of a NUMBER cell. EveryNumberTest has every NUMBER of them. */
final class TellingsTest {
    private static final int NO_POWER = -2147483648;

    private TellingsTest() {
    }

    public static void main(String[] args) {
        digits();
        binaryDigits();
        powerByLogs();
        digitsInAndQuotient();
        isTenth();
        mirror();
        step();
        stepSound();
        primes();
        primesNear();
        pairNear();
        factorialDigits();
        Check.end();
    }

    /** The cells 0 to 5: 1, 65536, 42, 2^-1, 2^17, 2^-1000. */
    private static Factorweights filled() {
        Factorweights on = new Factorweights();
        on.putWhole(1, 65536);
        on.putWhole(2, 42);
        on.putPower(3, -1);
        on.putPower(4, 17);
        on.putPower(5, -1000);
        return on;
    }

    private static void digits() {
        Factorweights on = filled();
        Check.dueTold(on, "27: 1", () -> on.digits(0), 1);
        Check.dueTold(on, "27: 65536", () -> on.digits(1), 5);
        Check.dueTold(on, "27: 2^-1", () -> on.digits(3), 0);
        Check.dueTold(on, "27: 2^17", () -> on.digits(4), 6);
        Check.dueTold(on, "27: 2^-1000", () -> on.digits(5), -301);
        on.putPower(6, -4);
        Check.dueTold(on, "27: 2^-4", () -> on.digits(6), -1);
        on.putPower(6, -31);
        Check.dueTold(on, "27: a -9 that is told is not counted", () -> on.digits(6), -9);
        Check.dueIndex(on, "27: cell 8", () -> on.digits(8));
    }

    private static void binaryDigits() {
        Factorweights on = filled();
        Check.dueTold(on, "28: 1", () -> on.binaryDigits(0), 1);
        Check.dueTold(on, "28: 65536", () -> on.binaryDigits(1), 17);
        Check.dueTold(on, "28: 42", () -> on.binaryDigits(2), 6);
        Check.dueNothing(on, "28: 2^-1", () -> on.binaryDigits(3));
        Check.dueNothing(on, "28: 2^17", () -> on.binaryDigits(4));
        Check.dueIndex(on, "28: cell 8", () -> on.binaryDigits(8));
    }

    private static void powerByLogs() {
        Factorweights on = filled();
        on.putPower(6, -9);
        Check.dueTold(on, "29: 1", () -> on.powerByLogs(0), 0);
        Check.dueTold(on, "29: 65536", () -> on.powerByLogs(1), 16);
        Check.dueTold(on, "29: 42 is not counted", () -> on.powerByLogs(2), NO_POWER);
        Check.dueTold(on, "29: 2^-1000", () -> on.powerByLogs(5), -1000);
        Check.dueTold(on, "29: 2^-9 is not counted", () -> on.powerByLogs(6), -9);
        Check.dueIndex(on, "29: cell -1", () -> on.powerByLogs(-1));
    }

    private static void digitsInAndQuotient() {
        Factorweights on = filled();
        Check.dueTold(on, "30: 42 by twos", () -> on.digitsIn(2, 2), 6);
        Check.dueTold(on, "30: 42 by 17s", () -> on.digitsIn(2, 17), 2);
        Check.dueTold(on, "30: 1 by 17s", () -> on.digitsIn(0, 17), 1);
        Check.dueTold(on, "31: 42 by twos", () -> on.quotient(2, 2), 5392317);
        Check.dueTold(on, "31: 1 by 17s", () -> on.quotient(0, 17), 0);
        Check.dueNothing(on, "30: 65536", () -> on.digitsIn(1, 2));
        Check.dueNothing(on, "31: 65536", () -> on.quotient(1, 2));
        Check.dueNothing(on, "30: 2^-1", () -> on.digitsIn(3, 2));
        Check.dueNothing(on, "31: 2^17", () -> on.quotient(4, 2));
        quotientsOfWrongCells();
    }

    private static void quotientsOfWrongCells() {
        Factorweights on = filled();
        Check.dueIndex(on, "30: cell 8 ahead of base 1", () -> on.digitsIn(8, 1));
        Check.dueIndex(on, "31: cell 8 ahead of base 18", () -> on.quotient(8, 18));
        Check.dueArgument(on, "30: base 18 ahead of -9", () -> on.digitsIn(1, 18));
        Check.dueArgument(on, "30: base 1", () -> on.digitsIn(2, 1));
        Check.dueArgument(on, "31: base 1 ahead of -9", () -> on.quotient(1, 1));
        Check.dueArgument(on, "31: base 18", () -> on.quotient(2, 18));
        on.putWhole(6, 4096);
        on.putWhole(7, 4097);
        Check.due("30: 4096", on.digitsIn(6, 16), 4);
        Check.due("31: 4096", on.quotient(6, 16), 3000000);
        Check.due("30: 4097", on.digitsIn(7, 16), -9);
        Check.due("31: 4097", on.quotient(7, 16), -9);
    }

    private static void isTenth() {
        Factorweights on = filled();
        for (int cell = 0; cell < 6; cell++) {
            int at = cell;
            Check.dueTold(on, "32: cell " + cell, () -> on.isTenth(at), true);
        }
        Check.dueIndex(on, "32: cell 8", () -> on.isTenth(8));
    }

    private static void mirror() {
        Factorweights on = filled();
        Check.dueTold(on, "33: 1", () -> on.mirror(0), 1);
        Check.dueTold(on, "33: 65536", () -> on.mirror(1), 1);
        Check.dueTold(on, "33: 2^-1000", () -> on.mirror(5), 1);
        Check.dueNothing(on, "33: 42", () -> on.mirror(2));
        Check.dueIndex(on, "33: cell 8", () -> on.mirror(8));
    }

    private static void step() {
        Factorweights on = filled();
        Check.dueTold(on, "34: at 1", () -> on.step(0, false), 693147180);
        Check.dueTold(on, "34: at 1 by ten", () -> on.step(0, true), 301029995);
        Check.dueTold(on, "34: at 42", () -> on.step(2, false), 23530497);
        Check.dueNothing(on, "34: at 65536", () -> on.step(1, false));
        Check.dueNothing(on, "34: at 2^-1", () -> on.step(3, true));
        on.putWhole(2, 65535);
        Check.dueTold(on, "34: at 65535", () -> on.step(2, false), 15258);
        Check.dueIndex(on, "34: cell 8", () -> on.step(8, true));
    }

    private static void stepSound() {
        Factorweights on = filled();
        Check.dueTold(on, "35: at 1", () -> on.stepSound(0), 1);
        Check.dueNothing(on, "35: at 65536", () -> on.stepSound(1));
        Check.dueNothing(on, "35: at 2^17", () -> on.stepSound(4));
        on.putWhole(2, 65535);
        Check.dueTold(on, "35: at 65535", () -> on.stepSound(2), 1);
        Check.dueIndex(on, "35: cell -1", () -> on.stepSound(-1));
    }

    private static void primes() {
        Factorweights on = filled();
        Check.dueTold(on, "36: 1", () -> on.primes(0), "");
        Check.dueTold(on, "36: 65536", () -> on.primes(1), "2*2*2*2*2*2*2*2*2*2*2*2*2*2*2*2");
        Check.dueTold(on, "36: 42", () -> on.primes(2), "2*3*7");
        Check.dueNothing(on, "36: 2^-1", () -> on.primes(3));
        on.putWhole(2, 65521);
        Check.dueTold(on, "36: 65521", () -> on.primes(2), "65521");
        Check.dueIndex(on, "36: cell 8", () -> on.primes(8));
    }

    private static void primesNear() {
        Factorweights on = filled();
        Check.dueTold(on, "37: 1", () -> on.primesNear(0, true), 1);
        Check.dueTold(on, "37: 65536", () -> on.primesNear(1, false), 1);
        Check.dueNothing(on, "37: 2^17", () -> on.primesNear(4, false));
        Check.dueNothing(on, "37: 2^-1", () -> on.primesNear(3, true));
        Check.dueIndex(on, "37: cell 8", () -> on.primesNear(8, true));
    }

    private static void pairNear() {
        Factorweights on = filled();
        Check.dueTold(on, "38: 1 and 65536", () -> on.pairNear(0, 1, false), 1);
        Check.dueTold(on, "38: 42 and 42", () -> on.pairNear(2, 2, true), 1);
        Check.dueNothing(on, "38: 65536 and 65536", () -> on.pairNear(1, 1, false));
        Check.dueNothing(on, "38: 1 and 2^-1", () -> on.pairNear(0, 3, false));
        Check.dueNothing(on, "38: 2^17 and 1", () -> on.pairNear(4, 0, false));
        on.putWhole(6, 1560);
        on.putWhole(7, 1561);
        Check.due("38: 42 and 1560", on.pairNear(2, 6, true), 1);
        Check.due("38: 42 and 1561", on.pairNear(2, 7, true), -9);
        Check.dueIndex(on, "38: one 8", () -> on.pairNear(8, 0, true));
        Check.dueIndex(on, "38: other 8", () -> on.pairNear(0, 8, true));
    }

    private static void factorialDigits() {
        Factorweights on = new Factorweights();
        Check.dueTold(on, "39: 0", () -> on.factorialDigits(0, false), 1);
        Check.dueTold(on, "39: 0 by twos", () -> on.factorialDigits(0, true), 1);
        Check.dueTold(on, "39: 2 by twos", () -> on.factorialDigits(2, true), 2);
        Check.dueTold(on, "39: 100", () -> on.factorialDigits(100, false), 158);
        Check.dueTold(on, "39: 100 by twos", () -> on.factorialDigits(100, true), 525);
        Check.dueArgument(on, "39: -1", () -> on.factorialDigits(-1, false));
        Check.dueArgument(on, "39: 101", () -> on.factorialDigits(101, true));
    }
}
