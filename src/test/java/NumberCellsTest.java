/** Promises 1 to 12: a new object and its NUMBER cells. */
final class NumberCellsTest {
    private static final int NO_POWER = -2147483648;

    private NumberCellsTest() {
    }

    public static void main(String[] args) {
        aNewObject();
        putWhole();
        putPower();
        putCopy();
        times();
        over();
        up();
        numberSort();
        wholeOf();
        powerOf();
        numberUpperAndText();
        Check.end();
    }

    private static void aNewObject() {
        Factorweights on = new Factorweights();
        for (int cell = 0; cell < 8; cell++) {
            Check.due("1: wholeOf " + cell, on.wholeOf(cell), 1);
            Check.due("1: answerText " + cell, on.answerText(cell), "0 0 0");
        }
        for (int heap = 0; heap < 4; heap++) {
            Check.due("1: heapSize " + heap, on.heapSize(heap), 0);
        }
        for (int what = 0; what < 5; what++) {
            Check.due("1: house " + what, on.house(what), 0);
        }
    }

    private static void putWhole() {
        Factorweights on = new Factorweights();
        Check.due("2: the SAME", on.putWhole(0, 1), 0);
        Check.due("2: another", on.putWhole(7, 65536), 1);
        Check.due("2: has it", on.wholeOf(7), 65536);
        on.putPower(3, 4);
        Check.due("2: the SAME as a POWER", on.putWhole(3, 16), 0);
        Check.due("2: acts", on.house(0), 4);
        Check.dueIndex(on, "2: cell -1", () -> on.putWhole(-1, 2));
        Check.dueIndex(on, "2: cell 8 ahead of n 0", () -> on.putWhole(8, 0));
        Check.dueArgument(on, "2: n 0", () -> on.putWhole(0, 0));
        Check.dueArgument(on, "2: n 65537", () -> on.putWhole(0, 65537));
        Check.dueArgument(on, "2: least n", () -> on.putWhole(0, NO_POWER));
    }

    private static void putPower() {
        Factorweights on = new Factorweights();
        Check.due("3: the SAME", on.putPower(0, 0), 0);
        Check.due("3: least", on.putPower(1, -1000), 1);
        Check.due("3: greatest", on.putPower(2, 1000), 1);
        Check.due("3: a WHOLE one", on.putPower(3, 16), 1);
        Check.due("3: has it", on.wholeOf(3), 65536);
        Check.due("3: has the least", on.powerOf(1), -1000);
        Check.due("3: has the greatest", on.powerOf(2), 1000);
        Check.due("3: acts", on.house(0), 4);
        Check.dueIndex(on, "3: cell 8 ahead of k 1001", () -> on.putPower(8, 1001));
        Check.dueIndex(on, "3: cell -1", () -> on.putPower(-1, 0));
        Check.dueArgument(on, "3: k 1001", () -> on.putPower(0, 1001));
        Check.dueArgument(on, "3: k -1001", () -> on.putPower(0, -1001));
    }

    private static void putCopy() {
        Factorweights on = new Factorweights();
        on.putWhole(0, 42);
        Check.due("4: another", on.putCopy(0, 7), 1);
        Check.due("4: the SAME", on.putCopy(0, 7), 0);
        Check.due("4: into itself", on.putCopy(0, 0), 0);
        Check.due("4: has it", on.wholeOf(7), 42);
        Check.due("4: stays", on.wholeOf(0), 42);
        Check.due("4: acts", on.house(0), 4);
        Check.dueIndex(on, "4: cell 8", () -> on.putCopy(8, 0));
        Check.dueIndex(on, "4: into 8", () -> on.putCopy(0, 8));
        Check.dueIndex(on, "4: into -1", () -> on.putCopy(0, -1));
    }

    private static int times(Factorweights on, int one, int other) {
        on.putWhole(0, one);
        on.putPower(1, other);
        return on.times(0, 1, 2);
    }

    private static void times() {
        Factorweights on = new Factorweights();
        Check.due("5: 6 * 2^-1", times(on, 6, -1), 1);
        Check.due("5: is 3", on.wholeOf(2), 3);
        Check.due("5: 65536 * 2^-1000", times(on, 65536, -1000), 1);
        Check.due("5: is 2^-984", on.powerOf(2), -984);
        Check.due("5: 65536 * 2^984", times(on, 65536, 984), 1);
        Check.due("5: is 2^1000", on.powerOf(2), 1000);
        Check.due("5: again", on.times(0, 1, 2), 0);
        Check.due("5: acts", on.house(0), 10);
        on.putWhole(0, 65535);
        on.putWhole(1, 65535);
        Check.dueNothing(on, "5: 65535 * 65535", () -> on.times(0, 1, 2));
        Check.dueIndex(on, "5: one 8", () -> on.times(8, 0, 0));
        Check.dueIndex(on, "5: other -1", () -> on.times(0, -1, 0));
        Check.dueIndex(on, "5: into 8, ahead of -9", () -> on.times(0, 1, 8));
        timesInto();
    }

    private static void timesInto() {
        Factorweights on = new Factorweights();
        on.putWhole(0, 256);
        on.putWhole(1, 257);
        Check.due("5: 256 * 256 over itself", on.times(0, 0, 0), 1);
        Check.due("5: is 65536", on.wholeOf(0), 65536);
        Check.due("5: 65536 * 65536", on.times(0, 0, 0), 1);
        Check.due("5: is 2^32", on.powerOf(0), 32);
        Check.dueNothing(on, "5: 2^32 * 257", () -> on.times(0, 1, 2));
        on.putPower(3, -1000);
        on.putPower(4, -1);
        Check.dueNothing(on, "5: 2^-1001", () -> on.times(3, 4, 2));
        on.putPower(3, 1000);
        on.putPower(4, 1);
        Check.dueNothing(on, "5: 2^1001", () -> on.times(3, 4, 2));
        on.putWhole(5, 3);
        on.putPower(6, -1);
        Check.dueNothing(on, "5: 3 * 2^-1", () -> on.times(5, 6, 2));
    }

    private static void over() {
        Factorweights on = new Factorweights();
        on.putWhole(0, 60000);
        on.putWhole(1, 7500);
        Check.due("6: 60000 / 7500", on.over(0, 1, 2), 1);
        Check.due("6: is 8", on.wholeOf(2), 8);
        Check.due("6: 7500 / 60000", on.over(1, 0, 3), 1);
        Check.due("6: is 2^-3", on.powerOf(3), -3);
        Check.due("6: 60000 / 60000", on.over(0, 0, 4), 0);
        Check.due("6: 60000 / 2^-3 is outside", on.over(0, 3, 5), -9);
        Check.due("6: 7500 / 2^-3", on.over(1, 3, 5), 1);
        Check.due("6: is 60000", on.wholeOf(5), 60000);
        Check.due("6: acts", on.house(0), 6);
        Check.due("6: not acts", on.house(3), 1);
        on.putWhole(6, 7);
        Check.dueNothing(on, "6: 60000 / 7", () -> on.over(0, 6, 5));
        Check.dueNothing(on, "6: 7 / 60000", () -> on.over(6, 0, 5));
        on.putPower(6, 1000);
        Check.dueNothing(on, "6: 2^-3 / 2^1000", () -> on.over(3, 6, 5));
        Check.dueIndex(on, "6: one 8", () -> on.over(8, 0, 0));
        Check.dueIndex(on, "6: other 8", () -> on.over(0, 8, 0));
        Check.dueIndex(on, "6: into -1", () -> on.over(0, 6, -1));
    }

    private static void up() {
        Factorweights on = new Factorweights();
        Check.due("7: from 1", on.up(0), 2);
        on.putWhole(1, 65535);
        Check.due("7: to 65536", on.up(1), 65536);
        Check.due("7: has it", on.wholeOf(1), 65536);
        Check.due("7: acts", on.house(0), 3);
        Check.dueNothing(on, "7: from 65536", () -> on.up(1));
        on.putPower(2, -1);
        Check.dueNothing(on, "7: from 2^-1", () -> on.up(2));
        on.putPower(2, 17);
        Check.dueNothing(on, "7: from 2^17", () -> on.up(2));
        Check.dueIndex(on, "7: cell 8", () -> on.up(8));
    }

    private static void numberSort() {
        Factorweights on = new Factorweights();
        on.putPower(0, 17);
        on.putWhole(1, 65536);
        on.putPower(2, -1);
        on.putPower(3, -1000);
        on.putPower(4, 1000);
        on.putWhole(5, 3);
        Check.due("8: changed", on.numberSort(), 8);
        StringBuilder text = new StringBuilder();
        for (int cell = 0; cell < 8; cell++) {
            text.append(on.powerOf(cell)).append(' ');
        }
        Check.due("8: order", text.toString(), "-1000 -1 0 0 " + NO_POWER + " 16 17 1000 ");
        Check.due("8: again", on.numberSort(), 0);
        Check.due("8: acts", on.house(0), 8);
        on.putWhole(1, 1);
        on.putPower(2, -1);
        Check.due("8: two changed", on.numberSort(), 2);
    }

    private static void wholeOf() {
        Factorweights on = new Factorweights();
        on.putWhole(0, 65536);
        on.putPower(1, 3);
        on.putPower(2, 17);
        on.putPower(3, -1);
        Check.dueTold(on, "9: 65536", () -> on.wholeOf(0), 65536);
        Check.dueTold(on, "9: 2^3", () -> on.wholeOf(1), 8);
        Check.dueNothing(on, "9: 2^17", () -> on.wholeOf(2));
        Check.dueNothing(on, "9: 2^-1", () -> on.wholeOf(3));
        Check.dueIndex(on, "9: cell 8", () -> on.wholeOf(8));
        Check.dueIndex(on, "9: cell -1", () -> on.wholeOf(-1));
    }

    private static void powerOf() {
        Factorweights on = new Factorweights();
        on.putWhole(0, 65536);
        on.putPower(1, -9);
        on.putWhole(2, 65535);
        Check.dueTold(on, "10: 65536", () -> on.powerOf(0), 16);
        Check.dueTold(on, "10: -9 is not counted", () -> on.powerOf(1), -9);
        Check.dueTold(on, "10: none is not counted", () -> on.powerOf(2), NO_POWER);
        Check.dueTold(on, "10: 1", () -> on.powerOf(3), 0);
        Check.dueIndex(on, "10: cell 8", () -> on.powerOf(8));
    }

    private static void numberUpperAndText() {
        Factorweights on = new Factorweights();
        on.putWhole(0, 65535);
        on.putPower(1, -1000);
        on.putPower(2, 1000);
        on.putWhole(3, 65536);
        Check.dueTold(on, "11: 65535", () -> on.numberUpper(0), 0x40EFFFE0);
        Check.dueTold(on, "11: 2^-1000", () -> on.numberUpper(1), 23 << 20);
        Check.dueTold(on, "11: 1", () -> on.numberUpper(7), 0x3FF00000);
        Check.dueIndex(on, "11: cell 8", () -> on.numberUpper(8));
        Check.dueTold(on, "12: 65535", () -> on.numberText(0), "0 1038 4503462188417024");
        Check.dueTold(on, "12: 2^1000", () -> on.numberText(2), "0 2023 0");
        Check.dueTold(on, "12: 65536", () -> on.numberText(3), "0 1039 0");
        Check.dueIndex(on, "12: cell -1", () -> on.numberText(-1));
    }
}
