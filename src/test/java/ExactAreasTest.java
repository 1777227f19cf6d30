import java.math.BigInteger;

/**
 * Every NUMBER of the SET, both KINDS: what the program tells of an ANSWER, against the area found by whole
 * numbers over 2^200, against the library's strict logarithm, and in order with the ANSWER before.
 */
final class ExactAreasTest {
    private static final int DIGITS = 200;
    private static final BigInteger ONE = BigInteger.ONE.shiftLeft(DIGITS);
    private static final BigInteger LN_2 = lnOfRatio(1, 3);
    private static final BigInteger LN_10 = LN_2.multiply(BigInteger.valueOf(3)).add(lnOfRatio(1, 9));

    private ExactAreasTest() {
    }

    public static void main(String[] args) {
        checkAll(false);
        checkAll(true);
        Check.end();
    }

    private static void checkAll(boolean isTen) {
        Factorweights program = new Factorweights();
        for (int number = -1000; number <= 66520; number++) {
            if (number == 0) {
                continue;
            }
            // An object is used for at most 512 calls; the ANSWER before goes along for the order.
            if (number % 25 == 0) {
                program = new Factorweights();
                put(program, number == -1000 ? number : number == 1 ? -1 : number - 1);
                program.answer(0, isTen, 0);
            }
            put(program, number);
            program.answer(0, isTen, 1);
            checkAnswer(program, number, isTen);
            boolean isFirst = number == -1000;
            Check.due("order at " + number + " " + isTen, program.answerOrder(0, 1, 0), isFirst && number % 25 == 0 ? 0 : -1);
            program.answerMax(0, 1, 0);
        }
    }

    /** The NUMBERS in a row: below 0 the POWERS below 1, above 65536 those from 2^17 on. */
    private static void put(Factorweights program, int number) {
        if (number < 0) {
            program.putPower(0, number);
        } else if (number <= 65536) {
            program.putWhole(0, number);
        } else {
            program.putPower(0, number - 65520);
        }
    }

    private static double valueOf(int number) {
        if (number < 0) {
            return Math.scalb(1.0, number);
        }
        return number <= 65536 ? number : Math.scalb(1.0, number - 65520);
    }

    private static void checkAnswer(Factorweights program, int number, boolean isTen) {
        String at = " at " + number + (isTen ? " by ten" : "");
        double strict = Model.log(valueOf(number), isTen);
        BigInteger exact = exactAt(number, isTen);
        String text = program.answerText(1);
        Check.due("answerText" + at, text, Model.textOf(strict));
        Check.due("answerText (exact)" + at, text, textOf(exact));
        Check.due("answerUpper" + at, program.answerUpper(1), (int) (Double.doubleToLongBits(strict) >> 32));
        Check.due("answerFloor" + at, program.answerFloor(1), exact.shiftRight(DIGITS).intValueExact());
        Check.due("answerFloor (strict)" + at, program.answerFloor(1), (int) Math.floor(strict));
        for (int places = 0; places <= 9; places++) {
            int told = program.answerPlaces(1, places);
            Check.due("answerPlaces " + places + at, told, Model.placesOf(strict, places));
            Check.due("answerPlaces (exact) " + places + at, told, placesOf(exact, places));
        }
    }

    private static BigInteger exactAt(int number, boolean isTen) {
        for (int ten = 1, tens = 0; isTen && tens < 5; ten *= 10, tens++) {
            if (number == ten) {
                return ONE.multiply(BigInteger.valueOf(tens));
            }
        }
        BigInteger natural;
        if (number < 1 || number > 65536) {
            natural = LN_2.multiply(BigInteger.valueOf(number < 1 ? number : number - 65520));
        } else {
            int twos = 31 - Integer.numberOfLeadingZeros(number);
            natural = LN_2.multiply(BigInteger.valueOf(twos)).add(lnOfRatio(number - (1 << twos), number + (1 << twos)));
        }
        return isTen ? natural.shiftLeft(DIGITS).divide(LN_10) : natural;
    }

    /** LN of (under + over) / (under - over), by the document's row. */
    private static BigInteger lnOfRatio(int over, int under) {
        BigInteger overTwice = BigInteger.valueOf((long) over * over);
        BigInteger underTwice = BigInteger.valueOf((long) under * under);
        BigInteger power = ONE.multiply(BigInteger.valueOf(2L * over)).divide(BigInteger.valueOf(under));
        BigInteger sum = BigInteger.ZERO;
        for (int odd = 1; power.signum() != 0; odd += 2) {
            sum = sum.add(power.divide(BigInteger.valueOf(odd)));
            power = power.multiply(overTwice).divide(underTwice);
        }
        return sum;
    }

    private static int placesOf(BigInteger exact, int places) {
        BigInteger part = exact.mod(ONE);
        return part.multiply(BigInteger.TEN.pow(places)).shiftRight(DIGITS).intValueExact();
    }

    private static String textOf(BigInteger exact) {
        if (exact.signum() == 0) {
            return "0 0 0";
        }
        BigInteger size = exact.abs();
        int highest = size.bitLength() - 1;
        int fraction = size.shiftRight(highest - 28).intValueExact() - (1 << 28);
        return (exact.signum() < 0 ? "1 " : "0 ") + (1023 + highest - DIGITS) + " " + fraction;
    }
}
