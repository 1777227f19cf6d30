/** Promises 13 to 26: the ANSWER cells. */
final class AnswerCellsTest {
    private AnswerCellsTest() {
    }

    public static void main(String[] args) {
        answer();
        maxAndMin();
        answerSort();
        answerEnd();
        upperAndText();
        floorAndPlaces();
        answerWhole();
        orders();
        answerFind();
        Check.end();
    }

    /** The cells 0 to 7: LG at 1000, LN at 20328, LG at 10, LN at 2^-1, LG at 2^1000, LN at 42, LG at 5466, LN at 2. */
    private static Factorweights filled() {
        Factorweights on = new Factorweights();
        on.putWhole(0, 1000);
        on.putWhole(1, 20328);
        on.putWhole(2, 10);
        on.putPower(3, -1);
        on.putPower(4, 1000);
        on.putWhole(5, 42);
        on.putWhole(6, 5466);
        on.putWhole(7, 2);
        for (int cell = 0; cell < 8; cell++) {
            on.answer(cell, cell % 2 == 0, cell);
        }
        return on;
    }

    private static void answer() {
        Factorweights on = new Factorweights();
        Check.due("13: LG at 1 is LIKE LN at 1", on.answer(0, true, 0), 0);
        Check.due("13: and LN at 1 LIKE it", on.answer(0, false, 0), 0);
        on.putWhole(0, 10);
        Check.due("13: LG at 10", on.answer(0, true, 0), 1);
        Check.due("13: again", on.answer(0, true, 0), 0);
        Check.due("13: LN at 10", on.answer(0, false, 0), 1);
        on.putWhole(0, 8);
        Check.due("13: LN at 8", on.answer(0, false, 1), 1);
        on.putPower(0, 3);
        Check.due("13: LN at 2^3", on.answer(0, false, 1), 0);
        on.putWhole(0, 7);
        Check.due("13: what comes later", on.answerText(1), "0 1024 10662463");
        Check.due("13: acts", on.house(1), 7);
        Check.dueIndex(on, "13: cell 8", () -> on.answer(8, false, 0));
        Check.dueIndex(on, "13: into 8", () -> on.answer(0, false, 8));
        Check.dueIndex(on, "13: into -1", () -> on.answer(0, true, -1));
    }

    private static void maxAndMin() {
        Factorweights on = filled();
        Check.due("14: LN 42 and LG 5466", on.answerMax(5, 6, 0), 1);
        Check.due("14: is LG 5466", on.answerLike(0, 6), true);
        Check.due("14: again", on.answerMax(6, 5, 0), 0);
        Check.due("14: of itself", on.answerMax(3, 3, 3), 0);
        Check.due("15: LN 42 and LG 5466", on.answerMin(5, 6, 0), 1);
        Check.due("15: is LN 42", on.answerLike(0, 5), true);
        Check.due("15: again", on.answerMin(6, 5, 0), 0);
        Check.due("15: below 0", on.answerMin(3, 4, 0), 1);
        Check.due("15: is LN 2^-1", on.answerFloor(0), -1);
        Check.due("14, 15: acts", on.house(1), 8 + 6);
        Check.dueIndex(on, "14: one 8", () -> on.answerMax(8, 0, 0));
        Check.dueIndex(on, "14: other 8", () -> on.answerMax(0, 8, 0));
        Check.dueIndex(on, "14: into 8", () -> on.answerMax(0, 0, 8));
        Check.dueIndex(on, "15: one -1", () -> on.answerMin(-1, 0, 0));
        Check.dueIndex(on, "15: other -1", () -> on.answerMin(0, -1, 0));
        Check.dueIndex(on, "15: into -1", () -> on.answerMin(0, 0, -1));
    }

    private static void answerSort() {
        Factorweights on = filled();
        // LG 1000 = 3, LN 20328 = 9.9, LG 10 = 1, LN 2^-1 = -0.7, LG 2^1000 = 301, LN 42 = 3.73767,
        // LG 5466 = 3.73767, LN 2 = 0.7
        Check.due("16: changed", on.answerSort(), 7);
        StringBuilder text = new StringBuilder();
        for (int cell = 0; cell < 8; cell++) {
            text.append(on.answerFloor(cell)).append(' ');
        }
        Check.due("16: order", text.toString(), "-1 0 1 3 3 3 9 301 ");
        Check.due("16: LN 42 ahead of LG 5466", on.answerPlaces(4, 9) < on.answerPlaces(5, 9), true);
        Check.due("16: again", on.answerSort(), 0);
        Check.due("16: acts", on.house(1), 10);
        Check.due("16: all alike", new Factorweights().answerSort(), 0);
    }

    private static void answerEnd() {
        Factorweights on = filled();
        Check.due("17: greatest", on.answerEnd(true, 0), 1);
        Check.due("17: is LG 2^1000", on.answerFloor(0), 301);
        Check.due("17: again", on.answerEnd(true, 0), 0);
        Check.due("17: over itself", on.answerEnd(true, 4), 0);
        Check.due("17: least", on.answerEnd(false, 7), 1);
        Check.due("17: is LN 2^-1", on.answerFloor(7), -1);
        Check.due("17: acts", on.house(1), 12);
        Check.dueIndex(on, "17: into 8", () -> on.answerEnd(false, 8));
        Check.dueIndex(on, "17: into -1", () -> on.answerEnd(true, -1));
    }

    private static void upperAndText() {
        Factorweights on = filled();
        Check.dueTold(on, "18: 3", () -> on.answerUpper(0), 0x40080000);
        Check.dueTold(on, "18: LN 2^-1", () -> on.answerUpper(3), 0xBFE62E42);
        Check.dueTold(on, "18: LN 2", () -> on.answerUpper(7), 0x3FE62E42);
        Check.dueTold(on, "18: 0", () -> new Factorweights().answerUpper(0), 0);
        Check.dueIndex(on, "18: cell 8", () -> on.answerUpper(8));
        Check.dueTold(on, "19: 3", () -> on.answerText(0), "0 1024 134217728");
        Check.dueTold(on, "19: LN 20328", () -> on.answerText(1), "0 1026 64416272");
        Check.dueTold(on, "19: LN 2^-1", () -> on.answerText(3), "1 1022 103695102");
        Check.dueTold(on, "19: 0", () -> new Factorweights().answerText(7), "0 0 0");
        Check.dueIndex(on, "19: cell -1", () -> on.answerText(-1));
        on.putPower(0, -1000);
        on.answer(0, false, 0);
        // LN(2^-1000) = -693.147180559945309...
        Check.dueTold(on, "19: LN 2^-1000", () -> on.answerText(0), Model.textOf(-693.1471805599453));
        Check.dueTold(on, "19: its sign", () -> on.answerUpper(0) < 0, true);
    }

    private static void floorAndPlaces() {
        Factorweights on = filled();
        Check.dueTold(on, "20: LN 2^-1", () -> on.answerFloor(3), -1);
        Check.dueTold(on, "20: LG 1000", () -> on.answerFloor(0), 3);
        Check.dueTold(on, "20: LG 2^1000", () -> on.answerFloor(4), 301);
        Check.dueIndex(on, "20: cell 8", () -> on.answerFloor(8));
        Check.dueTold(on, "21: LN 20328", () -> on.answerPlaces(1, 9), 919754525);
        Check.dueTold(on, "21: LN 2^-1", () -> on.answerPlaces(3, 9), 306852819);
        Check.dueTold(on, "21: LN 2^-1, one place", () -> on.answerPlaces(3, 1), 3);
        Check.dueTold(on, "21: no place", () -> on.answerPlaces(3, 0), 0);
        Check.dueTold(on, "21: a whole one", () -> on.answerPlaces(0, 9), 0);
        Check.dueIndex(on, "21: cell 8 ahead of places 10", () -> on.answerPlaces(8, 10));
        Check.dueArgument(on, "21: places 10", () -> on.answerPlaces(0, 10));
        Check.dueArgument(on, "21: places -1", () -> on.answerPlaces(0, -1));
        on.putPower(0, -12);
        on.answer(0, false, 0);
        Check.dueTold(on, "20: a -9 that is told is not counted", () -> on.answerFloor(0), -9);
    }

    private static void answerWhole() {
        Factorweights on = new Factorweights();
        Check.dueTold(on, "22: 0", () -> on.answerWhole(0), 0);
        for (int tens = 1, ten = 10; tens <= 4; tens++, ten *= 10) {
            on.putWhole(0, ten);
            on.answer(0, true, tens);
            Check.due("22: LG of " + ten, on.answerWhole(tens), tens);
            Check.due("22: its text", on.answerText(tens), Model.textOf(tens));
        }
        on.answer(0, false, 0);
        Check.dueNothing(on, "22: LN 10000", () -> on.answerWhole(0));
        on.putWhole(0, 9999);
        on.answer(0, true, 0);
        Check.dueNothing(on, "22: LG 9999", () -> on.answerWhole(0));
        Check.dueIndex(on, "22: cell 8", () -> on.answerWhole(8));
    }

    private static void orders() {
        Factorweights on = filled();
        for (int how = 0; how < 2; how++) {
            Check.due("23: less " + how, on.answerOrder(5, 6, how), -1);
            Check.due("23: greater " + how, on.answerOrder(6, 5, how), 1);
            Check.due("23: itself " + how, on.answerOrder(3, 3, how), 0);
            Check.due("23: below 0 " + how, on.answerOrder(3, 7, how), -1);
        }
        Check.dueIndex(on, "23: other 8 ahead of how 2", () -> on.answerOrder(0, 8, 2));
        Check.dueIndex(on, "23: one -1", () -> on.answerOrder(-1, 0, 0));
        Check.dueArgument(on, "23: how 2", () -> on.answerOrder(0, 0, 2));
        Check.dueArgument(on, "23: how -1", () -> on.answerOrder(0, 0, -1));
        Check.dueTold(on, "24: near ones", () -> on.answerLike(5, 6), false);
        Check.dueTold(on, "24: itself", () -> on.answerLike(4, 4), true);
        Check.dueTold(on, "25: less", () -> on.answerBelow(5, 6, false), true);
        Check.dueTold(on, "25: less or LIKE", () -> on.answerBelow(5, 6, true), true);
        Check.dueTold(on, "25: greater", () -> on.answerBelow(6, 5, true), false);
        Check.dueTold(on, "25: itself", () -> on.answerBelow(2, 2, false), false);
        Check.dueTold(on, "25: itself or LIKE", () -> on.answerBelow(2, 2, true), true);
        ordersOfWrongCells();
    }

    private static void ordersOfWrongCells() {
        Factorweights on = new Factorweights();
        Check.dueIndex(on, "24: one 8", () -> on.answerLike(8, 0));
        Check.dueIndex(on, "24: other 8", () -> on.answerLike(0, 8));
        Check.dueIndex(on, "25: one -1", () -> on.answerBelow(-1, 0, true));
        Check.dueIndex(on, "25: other 8", () -> on.answerBelow(0, 8, true));
        on.answer(0, true, 1);
        Check.dueTold(on, "24: both at 1", () -> on.answerLike(0, 1), true);
        Check.dueTold(on, "23: both at 1", () -> on.answerOrder(0, 1, 0), 0);
        on.putWhole(0, 2);
        on.answer(0, false, 0);
        on.answer(0, true, 1);
        Check.dueTold(on, "24: the same NUMBER, not the KIND", () -> on.answerLike(0, 1), false);
    }

    private static void answerFind() {
        Factorweights on = new Factorweights();
        Check.dueTold(on, "26: first", () -> on.answerFind(5, false), 0);
        Check.dueTold(on, "26: last", () -> on.answerFind(5, true), 7);
        on.putWhole(0, 9);
        on.answer(0, true, 2);
        on.answer(0, true, 4);
        on.answer(0, false, 7);
        Check.dueTold(on, "26: first of two", () -> on.answerFind(4, false), 2);
        Check.dueTold(on, "26: last of two", () -> on.answerFind(2, true), 4);
        Check.dueTold(on, "26: the only one", () -> on.answerFind(7, false), 7);
        Check.dueTold(on, "26: last 0", () -> on.answerFind(0, true), 6);
        Check.dueIndex(on, "26: cell 8", () -> on.answerFind(8, true));
        Check.dueIndex(on, "26: cell -1", () -> on.answerFind(-1, false));
    }
}
