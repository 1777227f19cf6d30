import java.math.BigInteger;

/** What is told of a NUMBER cell, at every NUMBER of the SET and every base, against the model. */
final class EveryNumberTest {
    private EveryNumberTest() {
    }

    public static void main(String[] args) {
        checkWholes();
        checkPowers();
        checkQuotients();
        checkPairs();
        checkFactorials();
        Check.end();
    }

    private static void checkWholes() {
        Factorweights program = new Factorweights();
        for (int n = 1; n <= 65536; n++) {
            if (n % 25 == 0) {
                program = new Factorweights();
            }
            String at = " at " + n;
            program.putWhole(0, n);
            Check.due("digits" + at, program.digits(0), String.valueOf(n).length());
            Check.due("digits (strict)" + at, program.digits(0), (int) Math.floor(StrictMath.log10(n)) + 1);
            Check.due("binaryDigits" + at, program.binaryDigits(0), Integer.toBinaryString(n).length());
            Check.due("binaryDigits (strict)" + at, program.binaryDigits(0), Model.binaryDigitsOf(n));
            Check.due("isTenth" + at, program.isTenth(0), Model.isTenthAt(n));
            Check.due("primes" + at, program.primes(0), primesText(n));
            Check.due("primesNear" + at, program.primesNear(0, false), Model.arePrimesNear(n, false) ? 1 : 0);
            Check.due("primesNear by ten" + at, program.primesNear(0, true), Model.arePrimesNear(n, true) ? 1 : 0);
            if (n < 65536) {
                Check.due("step" + at, program.step(0, false), stepOf(n, false));
                Check.due("step by ten" + at, program.step(0, true), stepOf(n, true));
                Check.due("stepSound" + at, program.stepSound(0), Model.isStepSound(n) ? 1 : 0);
            }
        }
    }

    private static String primesText(int n) {
        StringBuilder text = new StringBuilder();
        for (int prime : Model.primesOf(n)) {
            text.append(text.length() > 0 ? "*" : "").append(prime);
        }
        return text.toString();
    }

    private static int stepOf(int n, boolean isTen) {
        return Model.inPlaces(new java.math.BigDecimal(Model.stepAt(n, isTen)), 9);
    }

    private static void checkPowers() {
        for (int k = -1000; k <= 1000; k++) {
            Factorweights program = new Factorweights();
            Model model = new Model();
            program.putPower(0, k);
            model.putPower(0, k);
            String at = " at 2^" + k;
            Check.due("digits" + at, program.digits(0), model.digits(0));
            Check.due("powerByLogs" + at, program.powerByLogs(0), k);
            Check.due("powerByLogs (strict)" + at, model.powerByLogs(0), k);
            Check.due("mirror" + at, program.mirror(0), 1);
            Check.due("mirror (strict)" + at, model.mirror(0), 1);
            Check.due("isTenth" + at, program.isTenth(0), model.isTenth(0));
            Check.due("numberText" + at, program.numberText(0), model.numberText(0));
            Check.due("numberUpper" + at, program.numberUpper(0), model.numberUpper(0));
        }
    }

    private static void checkQuotients() {
        for (int n = 1; n <= 4096; n++) {
            Factorweights program = new Factorweights();
            program.putWhole(0, n);
            for (int base = 2; base <= 17; base++) {
                String at = " of " + n + " and " + base;
                int quotient = program.quotient(0, base);
                Check.due("quotient" + at, quotient, Model.millionths(n, base));
                Check.due("digitsIn" + at, program.digitsIn(0, base), Integer.toString(n, base).length());
                Check.due("digitsIn by the quotient" + at, quotient / 1000000 + 1, program.digitsIn(0, base));
            }
        }
    }

    private static void checkPairs() {
        for (int one = 1; one * one <= 65536; one++) {
            Factorweights program = new Factorweights();
            Model model = new Model();
            for (int other = one; one * other <= 65536; other++) {
                if (other % 100 == 0) {
                    program = new Factorweights();
                }
                program.putWhole(0, one);
                program.putWhole(1, other);
                model.putWhole(0, one);
                model.putWhole(1, other);
                String at = " of " + one + " and " + other;
                Check.due("pairNear" + at, program.pairNear(0, 1, false), model.pairNear(0, 1, false));
                Check.due("pairNear by ten" + at, program.pairNear(1, 0, true), model.pairNear(1, 0, true));
            }
        }
    }

    private static void checkFactorials() {
        Factorweights program = new Factorweights();
        Model model = new Model();
        BigInteger product = BigInteger.ONE;
        for (int n = 0; n <= 100; n++) {
            product = product.multiply(BigInteger.valueOf(Math.max(n, 1)));
            String at = " of " + n;
            Check.due("factorialDigits" + at, program.factorialDigits(n, false), product.toString().length());
            Check.due("factorialDigits (strict)" + at, model.factorialDigits(n, false), product.toString().length());
            Check.due("factorialDigits by twos" + at, program.factorialDigits(n, true), product.bitLength());
            Check.due("factorialDigits by twos (strict)" + at, model.factorialDigits(n, true), product.bitLength());
        }
    }
}
