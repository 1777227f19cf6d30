/** Each sentence of section 1 and of promises 1 to 12 that names a boundary case, by itself. */
final class NumberBoundsTest {
    private static final int NO_POWER = Given.NO_POWER;

    private NumberBoundsTest() {
    }

    public static void main(String[] args) {
        aNewObjectHasOnesZerosAndEmptyHeaps();
        leastAndGreatestWhole();
        leastAndGreatestPower();
        powersFrom0To16AreBoth();
        putTellsWhetherAnotherWasThere();
        copyIntoItself();
        productsAtTheEndsOfTheSet();
        productsOutsideOfTheSet();
        productsThatPassAnInt();
        twosThatPassAShift();
        productsOfCellsIntoThemselves();
        quotientsAtTheEndsOfTheSet();
        quotientsOutsideOfTheSet();
        upToTheGreatest();
        upFromWhatIsNoWhole();
        sortOfFew();
        sortByValue();
        wholesAtTheEnds();
        powersAtTheEnds();
        digitsOfNumbersAtTheEnds();
        Check.end();
    }

    private static void aNewObjectHasOnesZerosAndEmptyHeaps() {
        Factorweights on = new Factorweights();
        for (int cell = 0; cell < 8; cell++) {
            Check.due("1: NUMBER cell " + cell, on.wholeOf(cell), 1);
            Check.due("1: its k", on.powerOf(cell), 0);
            Check.due("1: ANSWER cell " + cell, on.answerText(cell), "0 0 0");
            Check.due("1: is 0", on.answerWhole(cell), 0);
            Check.due("1: LIKE the next", on.answerLike(cell, (cell + 1) % 8), true);
        }
        for (int heap = 0; heap < 4; heap++) {
            Check.due("1: HEAP " + heap, on.heapSize(heap), 0);
            Check.due("1: its PRODUCT", on.heapProduct(heap), "1");
        }
        Check.due("1: nothing was done", Given.counts(on), "0 0 0 0 0");
        Check.due("1: is sound", on.isSound(), true);
    }

    private static void leastAndGreatestWhole() {
        Factorweights on = new Factorweights();
        Check.due("2: 1 to the first cell", on.putWhole(0, 1), 0);
        Check.due("2: 2 to the first cell", on.putWhole(0, 2), 1);
        Check.due("2: 1 in place of it", on.putWhole(0, 1), 1);
        Check.due("2: 65536 to the last cell", on.putWhole(7, 65536), 1);
        Check.due("2: 65535 in place of it", on.putWhole(7, 65535), 1);
        Check.due("2: they are there", on.wholeOf(0) + on.wholeOf(7), 1 + 65535);
        Check.dueArgument(on, "2: 0 is refused", () -> on.putWhole(7, 0));
        Check.dueArgument(on, "2: -1 is refused", () -> on.putWhole(7, -1));
        Check.dueArgument(on, "2: 65537 is refused", () -> on.putWhole(7, 65537));
        Check.dueArgument(on, "2: 2^16 + 2^16 is refused", () -> on.putWhole(7, 131072));
        Check.dueIndex(on, "2: the cell is named first", () -> on.putWhole(8, 65537));
        Check.due("2: a refused one is no act", Given.counts(on), "5 0 0 0 0");
    }

    private static void leastAndGreatestPower() {
        Factorweights on = new Factorweights();
        Check.due("3: 2^-1000", on.putPower(0, -1000), 1);
        Check.due("3: again", on.putPower(0, -1000), 0);
        Check.due("3: 2^1000", on.putPower(7, 1000), 1);
        Check.due("3: 2^999 in place of it", on.putPower(7, 999), 1);
        Check.due("3: it is there", on.powerOf(7), 999);
        Check.due("3: 2^-999 in place of 2^-1000", on.putPower(0, -999), 1);
        Check.due("3: it is there, too", on.powerOf(0), -999);
        Check.dueArgument(on, "3: 1001 is refused", () -> on.putPower(0, 1001));
        Check.dueArgument(on, "3: -1001 is refused", () -> on.putPower(0, -1001));
        Check.dueArgument(on, "3: 65536 is refused", () -> on.putPower(0, 65536));
        Check.dueIndex(on, "3: the cell is named first", () -> on.putPower(-1, -1001));
        Check.due("3: a refused one is no act", Given.counts(on), "5 0 0 0 0");
    }

    private static void powersFrom0To16AreBoth() {
        for (int k = 0; k <= 16; k++) {
            Factorweights on = new Factorweights();
            on.putPower(0, k);
            Check.due("section 1: 2^" + k + " is a WHOLE one", on.wholeOf(0), 1 << k);
            Check.due("section 1: and the SAME", on.putWhole(0, 1 << k), 0);
            Check.due("section 1: and still the POWER", on.powerOf(0), k);
            Check.due("section 1: and the SAME again", on.putPower(0, k), 0);
        }
        Factorweights on = Given.numbers("2^17", "2^-1");
        Check.dueNothing(on, "section 1: 2^17 is no WHOLE one", () -> on.wholeOf(0));
        Check.dueNothing(on, "section 1: 2^-1 is no WHOLE one", () -> on.wholeOf(1));
    }

    private static void putTellsWhetherAnotherWasThere() {
        Factorweights on = Given.numbers("7", "7", "2^-7", "2^7", "128");
        Check.due("4: the SAME from another cell", on.putCopy(0, 1), 0);
        Check.due("4: 2^-7 in place of 7", on.putCopy(2, 1), 1);
        Check.due("4: 2^7 in place of 2^-7", on.putCopy(3, 1), 1);
        Check.due("4: 128 in place of 2^7", on.putCopy(4, 1), 0);
        Check.due("4: the first cell to the last", on.putCopy(0, 7), 1);
        Check.due("4: the last cell to the first", on.putCopy(7, 0), 0);
        Check.due("4: all are acts", Given.counts(on), "11 0 0 0 0");
    }

    private static void copyIntoItself() {
        Factorweights on = Given.numbers("42");
        Check.due("4: itself", on.putCopy(0, 0), 0);
        Check.due("4: stays", on.wholeOf(0), 42);
        Check.due("4: is an act", on.house(0), 2);
        Check.dueIndex(on, "4: cell -1", () -> on.putCopy(-1, 0));
        Check.dueIndex(on, "4: both are wrong", () -> on.putCopy(8, -1));
    }

    private static void dueProduct(String one, String other, String due) {
        dueBoth("5: " + one + " * " + other, one, other, due, true);
        dueBoth("5: " + other + " * " + one, other, one, due, true);
    }

    private static void dueQuotient(String one, String other, String due) {
        dueBoth("6: " + one + " / " + other, one, other, due, false);
    }

    /** The cell to which it comes has 3 before; "-9" is due where it stays. */
    private static void dueBoth(String call, String one, String other, String due, boolean isProduct) {
        Factorweights on = Given.numbers(one, other, "3");
        if (due.equals("-9")) {
            Check.dueNothing(on, call, () -> isProduct ? on.times(0, 1, 2) : on.over(0, 1, 2));
            Check.due(call + " leaves the cell", on.wholeOf(2), 3);
            Check.due(call + " is no act", Given.counts(on), "3 0 0 1 0");
            return;
        }
        Check.due(call, isProduct ? on.times(0, 1, 2) : on.over(0, 1, 2), due.equals("3") ? 0 : 1);
        Check.due(call + " is there", Given.number(on, 2), due);
        Check.due(call + " leaves the first one", Given.put(on, 0, one), 0);
        Check.due(call + " leaves the other one", Given.put(on, 1, other), 0);
    }

    private static void productsAtTheEndsOfTheSet() {
        dueProduct("1", "1", "2^0");
        dueProduct("1", "3", "3");
        dueProduct("1", "65536", "2^16");
        dueProduct("1", "65535", "65535");
        dueProduct("255", "257", "65535");
        dueProduct("256", "256", "2^16");
        dueProduct("2", "32768", "2^16");
        dueProduct("2", "32767", "65534");
        dueProduct("3", "16384", "49152");
        dueProduct("6", "2^-1", "3");
        dueProduct("65534", "2^-1", "32767");
        dueProduct("49152", "2^-14", "3");
        dueProduct("2^1000", "2^-1000", "2^0");
        dueProduct("2^500", "2^500", "2^1000");
        dueProduct("2^-500", "2^-500", "2^-1000");
        dueProduct("65536", "2^984", "2^1000");
        dueProduct("65536", "2^-1000", "2^-984");
        dueProduct("2^17", "2^-1", "2^16");
        dueProduct("65536", "2", "2^17");
    }

    private static void productsOutsideOfTheSet() {
        dueProduct("3", "21846", "-9");
        dueProduct("2", "32769", "-9");
        dueProduct("3", "32768", "-9");
        dueProduct("3", "2^17", "-9");
        dueProduct("3", "2^1000", "-9");
        dueProduct("3", "2^-1", "-9");
        dueProduct("6", "2^-2", "-9");
        dueProduct("3", "2^-1000", "-9");
        dueProduct("49152", "2^-15", "-9");
        dueProduct("2^1000", "2", "-9");
        dueProduct("2^1000", "2^1000", "-9");
        dueProduct("2^500", "2^501", "-9");
        dueProduct("65536", "2^985", "-9");
        dueProduct("2^-1000", "2^-1", "-9");
        dueProduct("2^-500", "2^-501", "-9");
        dueProduct("2^-1000", "2^-1000", "-9");
    }

    private static void productsThatPassAnInt() {
        dueProduct("65536", "65536", "2^32");
        dueProduct("65536", "32768", "2^31");
        dueProduct("65535", "65535", "-9");
        dueProduct("46341", "46341", "-9");
        dueProduct("65536", "65535", "-9");
        dueProduct("49152", "65536", "-9");
    }

    /** A shift by 32 or 64 binary digits is none at all in Java. */
    private static void twosThatPassAShift() {
        for (int k = 32; k <= 992; k += 32) {
            dueProduct("3", "2^" + k, "-9");
            dueProduct("3", "2^-" + k, "-9");
            dueQuotient("3", "2^" + k, "-9");
            dueQuotient("3", "2^-" + k, "-9");
            dueProduct("1", "2^" + k, "2^" + k);
            dueQuotient("1", "2^" + k, "2^-" + k);
        }
        dueProduct("3", "2^33", "-9");
        dueProduct("6", "2^-65", "-9");
        dueProduct("2^32", "2^-32", "2^0");
        dueProduct("2^64", "2^-64", "2^0");
    }

    private static void productsOfCellsIntoThemselves() {
        Factorweights on = Given.numbers("2^-1", "6");
        Check.due("5: into the other one", on.times(0, 1, 1), 1);
        Check.due("5: is 3", on.wholeOf(1), 3);
        Check.due("5: into the first one", on.times(1, 7, 1), 0);
        Check.dueNothing(on, "5: 3 * 2^-1 into the first one", () -> on.times(1, 0, 1));
        Check.due("5: which stays", on.wholeOf(1), 3);
        Check.due("5: all three the same", on.times(0, 0, 0), 1);
        Check.due("5: is 2^-2", on.powerOf(0), -2);
        Check.due("6: all three the same", on.over(0, 0, 0), 1);
        Check.due("6: is 1", on.wholeOf(0), 1);
        Check.dueIndex(on, "5: one -1", () -> on.times(-1, 0, 0));
        Check.dueIndex(on, "5: other 8", () -> on.times(0, 8, 0));
        Check.dueIndex(on, "5: into -1", () -> on.times(0, 0, -1));
        Check.dueIndex(on, "6: one -1", () -> on.over(-1, 0, 0));
        Check.dueIndex(on, "6: other -1", () -> on.over(0, -1, 0));
        on.putWhole(2, 7);
        Check.dueIndex(on, "6: into 8 goes ahead of -9", () -> on.over(0, 2, 8));
    }

    private static void quotientsAtTheEndsOfTheSet() {
        dueQuotient("1", "1", "2^0");
        dueQuotient("65535", "65535", "2^0");
        dueQuotient("65535", "1", "65535");
        dueQuotient("65535", "21845", "3");
        dueQuotient("1", "65536", "2^-16");
        dueQuotient("3", "6", "2^-1");
        dueQuotient("3", "49152", "2^-14");
        dueQuotient("3", "2^-14", "49152");
        dueQuotient("32767", "2^-1", "65534");
        dueQuotient("32768", "2^-1", "2^16");
        dueQuotient("65536", "2^-1", "2^17");
        dueQuotient("65536", "2^-984", "2^1000");
        dueQuotient("2^17", "2", "2^16");
        dueQuotient("2^1000", "2^1000", "2^0");
        dueQuotient("2^-1000", "2^-1000", "2^0");
        dueQuotient("2^-1000", "1", "2^-1000");
        dueQuotient("2^-999", "2", "2^-1000");
        dueQuotient("2^999", "2^-1", "2^1000");
        dueQuotient("2^500", "2^-500", "2^1000");
        dueQuotient("1", "2^1000", "2^-1000");
        dueQuotient("1", "2^-1000", "2^1000");
    }

    private static void quotientsOutsideOfTheSet() {
        dueQuotient("1", "3", "-9");
        dueQuotient("3", "2", "-9");
        dueQuotient("6", "4", "-9");
        dueQuotient("7", "3", "-9");
        dueQuotient("10", "3", "-9");
        dueQuotient("65535", "7", "-9");
        dueQuotient("65535", "2", "-9");
        dueQuotient("65536", "3", "-9");
        dueQuotient("3", "4", "-9");
        dueQuotient("7", "2^1000", "-9");
        dueQuotient("7", "2^-1000", "-9");
        dueQuotient("2^17", "3", "-9");
        dueQuotient("2^-1", "3", "-9");
        dueQuotient("3", "2^17", "-9");
        dueQuotient("65535", "2^-1", "-9");
        dueQuotient("32769", "2^-1", "-9");
        dueQuotient("3", "2^-15", "-9");
        dueQuotient("65536", "65535", "-9");
        dueQuotient("65536", "2^-985", "-9");
        dueQuotient("2^1000", "2^-1", "-9");
        dueQuotient("2^-1000", "2", "-9");
        dueQuotient("2^-1000", "2^1000", "-9");
        dueQuotient("2^1000", "2^-1000", "-9");
    }

    private static void upToTheGreatest() {
        Factorweights on = Given.numbers("1", "65534", "2^3");
        Check.due("7: from 1", on.up(0), 2);
        Check.due("7: has it", on.wholeOf(0), 2);
        Check.due("7: from 65534", on.up(1), 65535);
        Check.due("7: from 65535", on.up(1), 65536);
        Check.due("7: from 2^3", on.up(2), 9);
        Check.due("7: of the last cell", on.up(7), 2);
        Check.dueNothing(on, "7: from 65536", () -> on.up(1));
        Check.due("7: which stays", on.wholeOf(1), 65536);
        Check.due("7: and is no act", on.house(0), 8);
        Check.dueIndex(on, "7: cell -1", () -> on.up(-1));
    }

    private static void upFromWhatIsNoWhole() {
        Factorweights on = Given.numbers("2^-1", "2^17", "2^-1000", "2^1000", "2^16");
        for (int cell = 0; cell < 5; cell++) {
            int at = cell;
            Check.dueNothing(on, "7: cell " + cell, () -> on.up(at));
        }
        Check.due("7: 2^-1 stays", on.powerOf(0), -1);
        Check.due("7: 2^17 stays", on.powerOf(1), 17);
    }

    private static void dueSort(String call, int due, String order, String... numbers) {
        Factorweights on = Given.numbers(numbers);
        Check.due(call, on.numberSort(), due);
        StringBuilder text = new StringBuilder();
        for (int cell = 0; cell < 8; cell++) {
            text.append(cell > 0 ? " " : "").append(Given.number(on, cell));
        }
        Check.due(call + ": the order", text.toString(), order);
        Check.due(call + ": an act", on.house(0), numbers.length + 1);
        Check.due(call + ": again", on.numberSort(), 0);
        Check.due(call + ": again an act", on.house(0), numbers.length + 2);
    }

    private static void sortOfFew() {
        dueSort("8: all the SAME", 0, "2^0 2^0 2^0 2^0 2^0 2^0 2^0 2^0");
        dueSort("8: the last one is less", 8, "2^-1 2^0 3 5 6 7 9 10", "2^0", "3", "5", "6", "7", "9", "10", "2^-1");
        dueSort("8: the first one is greater", 2, "2^0 2^0 2^0 2^0 2^0 2^0 2^0 2^1", "2");
        dueSort("8: two change places", 2, "2^0 3 5 6 7 9 10 11", "2^0", "3", "6", "5", "7", "9", "10", "11");
        dueSort("8: those that are the SAME do not count", 2, "3 3 5 5 6 6 7 7", "3", "3", "6", "5", "5", "6", "7", "7");
        dueSort("8: backward", 8, "2^0 2^1 3 2^2 5 6 7 2^3", "8", "7", "6", "5", "4", "3", "2", "1");
    }

    private static void sortByValue() {
        dueSort("8: from end to end of the SET", 8, "2^-1000 2^-2 2^-1 2^0 65535 2^16 2^17 2^1000",
            "2^1000", "2^17", "2^16", "65535", "1", "2^-1", "2^-2", "2^-1000");
        dueSort("8: POWERS among WHOLE ones", 8, "2^-999 2^0 3 2^2 5 65535 2^17 2^999",
            "2^999", "2^-999", "2^17", "65535", "2^2", "5", "3", "1");
    }

    private static void wholesAtTheEnds() {
        Factorweights on = Given.numbers("1", "65536", "65535", "2^17", "2^-1", "2^1000", "2^-1000");
        Check.dueTold(on, "9: 1", () -> on.wholeOf(0), 1);
        Check.dueTold(on, "9: 65536", () -> on.wholeOf(1), 65536);
        Check.dueTold(on, "9: 65535", () -> on.wholeOf(2), 65535);
        for (int cell = 3; cell < 7; cell++) {
            int at = cell;
            Check.dueNothing(on, "9: none in cell " + cell, () -> on.wholeOf(at));
        }
    }

    private static void powersAtTheEnds() {
        Factorweights on = Given.numbers("1", "65536", "65535", "3", "2", "2^1000", "2^-1000", "2^17");
        Check.dueTold(on, "10: 1", () -> on.powerOf(0), 0);
        Check.dueTold(on, "10: 65536", () -> on.powerOf(1), 16);
        Check.dueTold(on, "10: 65535 has none, uncounted", () -> on.powerOf(2), NO_POWER);
        Check.dueTold(on, "10: 3 has none, uncounted", () -> on.powerOf(3), NO_POWER);
        Check.dueTold(on, "10: 2", () -> on.powerOf(4), 1);
        Check.dueTold(on, "10: 2^1000", () -> on.powerOf(5), 1000);
        Check.dueTold(on, "10: 2^-1000", () -> on.powerOf(6), -1000);
        Check.dueTold(on, "10: 2^17", () -> on.powerOf(7), 17);
        Check.dueIndex(on, "10: cell -1", () -> on.powerOf(-1));
        on.putPower(0, -9);
        Check.dueTold(on, "10: a k of -9 is no -9", () -> on.powerOf(0), -9);
        Check.due("10: none was counted", on.house(3), 0);
    }

    /** The EXPONENT and FRACTION by hand: 65535 is 2^15 + 32767, so FRACTION is 32767 * 2^37. */
    private static void digitsOfNumbersAtTheEnds() {
        Factorweights on = Given.numbers("1", "65536", "65535", "2^1000", "2^-1000", "3", "2^-1");
        Check.dueTold(on, "12: 1", () -> on.numberText(0), "0 1023 0");
        Check.dueTold(on, "12: 65536", () -> on.numberText(1), "0 1039 0");
        Check.dueTold(on, "12: 65535", () -> on.numberText(2), "0 1038 " + 32767L * (1L << 37));
        Check.dueTold(on, "12: 2^1000", () -> on.numberText(3), "0 2023 0");
        Check.dueTold(on, "12: 2^-1000", () -> on.numberText(4), "0 23 0");
        Check.dueTold(on, "12: 3", () -> on.numberText(5), "0 1024 " + (1L << 51));
        Check.dueTold(on, "12: 2^-1", () -> on.numberText(6), "0 1022 0");
        Check.dueTold(on, "11: 1", () -> on.numberUpper(0), 1023 << 20);
        Check.dueTold(on, "11: 65536", () -> on.numberUpper(1), 1039 << 20);
        Check.dueTold(on, "11: 65535", () -> on.numberUpper(2), (1038 << 20) + 32767 * (1 << 5));
        Check.dueTold(on, "11: 2^1000", () -> on.numberUpper(3), 2023 << 20);
        Check.dueTold(on, "11: 2^-1000", () -> on.numberUpper(4), 23 << 20);
        Check.dueTold(on, "11: 3", () -> on.numberUpper(5), (1024 << 20) + (1 << 19));
        Check.dueIndex(on, "11: cell -1", () -> on.numberUpper(-1));
        Check.dueIndex(on, "12: cell 8", () -> on.numberText(8));
    }
}
