/** Each sentence of section 2 and of promises 13 to 26 that names a boundary case, by itself. */
final class AnswerBoundsTest {
    private AnswerBoundsTest() {
    }

    public static void main(String[] args) {
        bothKindsAt1AreLike();
        sameNumberWrittenTwiceIsLike();
        otherKindIsNotLike();
        whatACellHasStays();
        greaterOfLikeOnes();
        lesserOfLikeOnes();
        greaterAndLesserOfNearOnes();
        greaterAndLesserBelowZero();
        sortOfLikeOnes();
        sortFromEndToEnd();
        endsOfLikeOnes();
        endsInEachCell();
        endsOfTheSet();
        firstDigitsOfZero();
        firstDigitsBelowZero();
        firstDigitsAtTheEnds();
        firstDigitsNearALine();
        floorsRoundDown();
        placesOfNoneAndNine();
        placesBelowZeroRoundDown();
        placesNearALine();
        wholesFrom0To4();
        notWholeBesidesThem();
        orderOfLikeNearAndFar();
        howIs0Or1();
        belowOrLike();
        findTheFirstAndTheLast();
        Check.end();
    }

    private static void bothKindsAt1AreLike() {
        Factorweights on = Given.numbers("2");
        Check.due("13: LG at 1 in place of LN at 1", on.answer(1, true, 0), 0);
        Check.due("13: LN at 1 in place of LG at 1", on.answer(1, false, 0), 0);
        Check.due("13: is an act all the same", Given.counts(on), "1 2 0 0 0");
        Check.due("13: LN at 2 in place of it", on.answer(0, false, 0), 1);
        Check.due("13: LG at 1 in place of that", on.answer(1, true, 0), 1);
        Check.due("24: LG at 1 is LIKE LN at 1", on.answerLike(0, 1), true);
        Check.due("23: and neither is less", on.answerOrder(0, 1, 0), 0);
        Check.due("25: nor below", on.answerBelow(0, 1, false), false);
    }

    private static void sameNumberWrittenTwiceIsLike() {
        for (int k = 0; k <= 16; k++) {
            Factorweights on = new Factorweights();
            on.putWhole(0, 1 << k);
            on.putPower(1, k);
            on.answer(0, true, 0);
            Check.due("13: LG at 2^" + k + " as POWER and as WHOLE one", on.answer(1, true, 0), 0);
            on.answer(0, false, 1);
            Check.due("13: LN at 2^" + k + " as POWER and as WHOLE one", on.answer(1, false, 1), 0);
        }
    }

    private static void otherKindIsNotLike() {
        for (String number : new String[] {"2", "3", "10", "65536", "2^17", "2^-1", "2^1000", "2^-1000"}) {
            Factorweights on = Given.answers("LN " + number);
            Check.due("13: LG in place of LN at " + number, Given.answer(on, 0, "LG " + number), 1);
            Check.due("13: LN in place of LG at " + number, Given.answer(on, 0, "LN " + number), 1);
            Check.due("13: LN again at " + number, Given.answer(on, 0, "LN " + number), 0);
        }
    }

    private static void whatACellHasStays() {
        Factorweights on = Given.numbers("3");
        on.answer(0, false, 0);
        on.putWhole(0, 65536);
        on.up(1);
        on.numberSort();
        Check.due("section 2: LN 3 stays", on.answerText(0), "0 1023 26471034");
        on.answer(0, false, 1);
        Check.due("section 2: in this cell alone", on.answerText(0), "0 1023 26471034");
        on.answerMax(0, 1, 2);
        on.answerMin(0, 0, 1);
        Check.due("14, 15: those from which one comes stay", on.answerLike(0, 1), true);
    }

    private static void greaterOfLikeOnes() {
        Factorweights on = Given.answers("LN 5", "LN 5", "LN 1", "LG 1");
        Check.due("14: of LIKE ones, in place of one of them", on.answerMax(0, 1, 1), 0);
        Check.due("14: of itself and itself", on.answerMax(0, 0, 0), 0);
        Check.due("14: of both KINDS at 1", on.answerMax(2, 3, 2), 0);
        Check.due("14: of both KINDS at 1, in place of another", on.answerMax(2, 3, 0), 1);
        Check.due("14: is 0", on.answerWhole(0), 0);
        Check.due("14: acts", on.house(1), 4 + 4);
        Check.dueIndex(on, "14: one -1", () -> on.answerMax(-1, 0, 0));
        Check.dueIndex(on, "14: other -1", () -> on.answerMax(0, -1, 0));
        Check.dueIndex(on, "14: into -1", () -> on.answerMax(0, 0, -1));
    }

    private static void lesserOfLikeOnes() {
        Factorweights on = Given.answers("LN 5", "LN 5", "LN 1", "LG 1");
        Check.due("15: of LIKE ones, in place of one of them", on.answerMin(0, 1, 1), 0);
        Check.due("15: of itself and itself", on.answerMin(0, 0, 0), 0);
        Check.due("15: of both KINDS at 1", on.answerMin(3, 2, 3), 0);
        Check.due("15: of both KINDS at 1, in place of another", on.answerMin(3, 2, 1), 1);
        Check.due("15: is 0", on.answerWhole(1), 0);
        Check.due("15: acts", on.house(1), 4 + 4);
        Check.dueIndex(on, "15: one 8", () -> on.answerMin(8, 0, 0));
        Check.dueIndex(on, "15: other 8", () -> on.answerMin(0, 8, 0));
        Check.dueIndex(on, "15: into 8", () -> on.answerMin(0, 0, 8));
    }

    /** LN 42 and LG 5466 are the nearest two of the SET that are not LIKE. */
    private static void greaterAndLesserOfNearOnes() {
        Factorweights on = Given.answers("LN 42", "LG 5466");
        Check.due("14: the first one less", on.answerMax(0, 1, 2), 1);
        Check.due("14: is LG 5466", on.answerLike(2, 1), true);
        Check.due("14: the other one less", on.answerMax(1, 0, 2), 0);
        Check.due("15: the first one less", on.answerMin(0, 1, 3), 1);
        Check.due("15: is LN 42", on.answerLike(3, 0), true);
        Check.due("15: the other one less", on.answerMin(1, 0, 3), 0);
        Check.due("14: into the lesser one", on.answerMax(0, 1, 0), 1);
        Check.due("14: into the greater one", on.answerMax(0, 1, 1), 0);
    }

    private static void greaterAndLesserBelowZero() {
        Factorweights on = Given.answers("LN 2^-1", "LN 2^-2", "LG 2^-1");
        Check.due("14: LN 2^-1 and LN 2^-2", on.answerMax(0, 1, 5), 1);
        Check.due("14: is LN 2^-1", on.answerLike(5, 0), true);
        Check.due("15: LN 2^-1 and LN 2^-2", on.answerMin(0, 1, 6), 1);
        Check.due("15: is LN 2^-2", on.answerLike(6, 1), true);
        Check.due("14: LN 2^-1 and LG 2^-1", on.answerMax(0, 2, 5), 1);
        Check.due("14: is LG 2^-1", on.answerLike(5, 2), true);
        Check.due("14: LG 2^-1 and 0", on.answerMax(2, 7, 5), 1);
        Check.due("14: is 0", on.answerWhole(5), 0);
        Check.due("15: 0 and LG 2^-1", on.answerMin(7, 2, 5), 1);
        Check.due("15: is LG 2^-1", on.answerLike(5, 2), true);
    }

    private static void dueSort(String call, int due, String order, String... answers) {
        Factorweights on = Given.answers(answers);
        Check.due(call, on.answerSort(), due);
        Factorweights sorted = Given.answers(order.split(", "));
        for (int cell = 0; cell < 8; cell++) {
            Check.due(call + ": cell " + cell, on.answerText(cell), sorted.answerText(cell));
            Check.due(call + ": its places", on.answerPlaces(cell, 9), sorted.answerPlaces(cell, 9));
        }
        Check.due(call + ": an act", on.house(1), answers.length + 1);
        Check.due(call + ": again", on.answerSort(), 0);
        Check.due(call + ": again an act", on.house(1), answers.length + 2);
    }

    private static void sortOfLikeOnes() {
        dueSort("16: all LIKE", 0, "LN 1, LN 1, LN 1, LN 1, LN 1, LN 1, LN 1, LN 1");
        dueSort("16: both KINDS at 1", 0, "LN 1, LN 1, LN 1, LN 1, LN 1, LN 1, LN 1, LN 1",
            "LG 1", "LN 1", "LG 1", "LN 1", "LN 1", "LG 1");
        dueSort("16: the first one is greater", 2, "LN 1, LN 1, LN 1, LN 1, LN 1, LN 1, LN 1, LG 2", "LG 2");
        dueSort("16: the last one is less", 8, "LN 2^-1, LN 1, LN 2, LN 3, LN 4, LN 5, LN 6, LN 7",
            "LN 1", "LN 2", "LN 3", "LN 4", "LN 5", "LN 6", "LN 7", "LN 2^-1");
        dueSort("16: those that are LIKE do not count", 2, "LN 2, LN 2, LN 3, LN 3, LN 4, LN 4, LN 5, LN 5",
            "LN 2", "LN 2", "LN 4", "LN 3", "LN 3", "LN 4", "LN 5", "LN 5");
    }

    private static void sortFromEndToEnd() {
        dueSort("16: from end to end of the SET", 8,
            "LN 2^-1000, LG 2^-1000, LN 2^-1, LN 1, LN 42, LG 5466, LG 2^1000, LN 2^1000",
            "LN 2^1000", "LG 2^1000", "LG 5466", "LN 42", "LG 1", "LN 2^-1", "LG 2^-1000", "LN 2^-1000");
        dueSort("16: around the whole ones", 8, "LG 9, LG 10, LG 11, LG 99, LG 100, LG 101, LG 10000, LG 10001",
            "LG 10001", "LG 10000", "LG 101", "LG 100", "LG 99", "LG 11", "LG 10", "LG 9");
    }

    private static void endsOfLikeOnes() {
        Factorweights on = new Factorweights();
        Check.due("17: the greatest of LIKE ones", on.answerEnd(true, 7), 0);
        Check.due("17: the least of LIKE ones", on.answerEnd(false, 0), 0);
        Check.due("17: acts", Given.counts(on), "0 2 0 0 0");
        Check.dueIndex(on, "17: into 8, the greatest", () -> on.answerEnd(true, 8));
        Check.dueIndex(on, "17: into -1, the least", () -> on.answerEnd(false, -1));
    }

    private static void endsInEachCell() {
        for (int end = 0; end < 8; end++) {
            String[] answers = new String[8];
            for (int cell = 0; cell < 8; cell++) {
                answers[cell] = "LN " + (cell + 2);
            }
            answers[end] = "LG 10000";
            Factorweights greatest = Given.answers(answers);
            int into = (end + 3) % 8;
            Check.due("17: the greatest, from cell " + end, greatest.answerEnd(true, into), 1);
            Check.due("17: is there", greatest.answerWhole(into), 4);
            Check.due("17: and stays", greatest.answerWhole(end), 4);
            answers[end] = "LN 1";
            Factorweights least = Given.answers(answers);
            Check.due("17: the least, from cell " + end, least.answerEnd(false, into), 1);
            Check.due("17: is there", least.answerWhole(into), 0);
            Check.due("17: and stays", least.answerWhole(end), 0);
        }
    }

    private static void endsOfTheSet() {
        Factorweights on = Given.answers("LN 2^1000", "LG 2^1000", "LN 65536", "LN 1", "LG 2^-1", "LG 2^-1000", "LN 3",
            "LN 2^-1000");
        Check.due("17: the greatest, in the first cell, to itself", on.answerEnd(true, 0), 0);
        Check.due("17: the least, in the last cell, to itself", on.answerEnd(false, 7), 0);
        Check.due("17: the greatest to another", on.answerEnd(true, 3), 1);
        Check.due("17: is LN 2^1000", on.answerLike(3, 0), true);
        Check.due("17: the least to another", on.answerEnd(false, 4), 1);
        Check.due("17: is LN 2^-1000", on.answerLike(4, 7), true);
        Check.due("17: the greatest in place of the least", on.answerEnd(true, 7), 1);
        Check.due("17: the least was there twice", on.answerEnd(false, 4), 0);
    }

    private static void firstDigitsOfZero() {
        Factorweights on = new Factorweights();
        Check.dueTold(on, "18: of LN 1", () -> on.answerUpper(0), 0);
        Check.dueTold(on, "19: of LN 1", () -> on.answerText(0), "0 0 0");
        on.answer(0, true, 0);
        Check.dueTold(on, "18: of LG 1", () -> on.answerUpper(0), 0);
        Check.dueTold(on, "19: of LG 1", () -> on.answerText(0), "0 0 0");
        Check.dueIndex(on, "18: cell -1", () -> on.answerUpper(-1));
        Check.dueIndex(on, "19: cell 8", () -> on.answerText(8));
    }

    /** Cut off toward 0: but for SIGN they are those of the mirror above 1. */
    private static void firstDigitsBelowZero() {
        for (int k = 1; k <= 1000; k++) {
            Factorweights on = new Factorweights();
            on.putPower(0, k);
            on.putPower(1, -k);
            on.answer(0, false, 0);
            on.answer(1, false, 1);
            on.answer(0, true, 2);
            on.answer(1, true, 3);
            Check.due("18: LN at 2^-" + k, on.answerUpper(1), on.answerUpper(0) | 1 << 31);
            Check.due("19: LN at 2^-" + k, on.answerText(1).substring(1), on.answerText(0).substring(1));
            Check.due("19: its SIGN", on.answerText(1).charAt(0), '1');
            Check.due("18: LG at 2^-" + k, on.answerUpper(3), on.answerUpper(2) | 1 << 31);
            Check.due("19: LG at 2^-" + k, on.answerText(3).substring(1), on.answerText(2).substring(1));
        }
    }

    private static void dueDigits(String answer, String text, int upper) {
        Factorweights on = Given.answers(answer);
        Check.dueTold(on, "19: " + answer, () -> on.answerText(0), text);
        Check.dueTold(on, "18: " + answer, () -> on.answerUpper(0), upper);
    }

    private static void firstDigitsAtTheEnds() {
        dueDigits("LG 2", "0 1021 54793040", 0x3fd34413);
        dueDigits("LG 2^-1", "1 1021 54793040", 0xbfd34413);
        dueDigits("LN 2", "0 1022 103695102", 0x3fe62e42);
        dueDigits("LN 2^1000", "0 1032 94973293", 0x4085a92d);
        dueDigits("LN 2^-1000", "1 1032 94973293", 0xc085a92d);
        dueDigits("LG 2^1000", "0 1031 47217372", 0x4072d07a);
        dueDigits("LG 2^-1000", "1 1031 47217372", 0xc072d07a);
        dueDigits("LN 65536", "0 1026 103695102", 0x40262e42);
        dueDigits("LG 65535", "0 1025 54792595", 0x40134411);
    }

    /** LG 10^n is on the line, LG 9999 just below 2^2; LG 35864 is the nearest one to a number of 28 digits. */
    private static void firstDigitsNearALine() {
        dueDigits("LG 10", "0 1023 0", 0x3ff00000);
        dueDigits("LG 100", "0 1024 0", 0x40000000);
        dueDigits("LG 1000", "0 1024 134217728", 0x40080000);
        dueDigits("LG 10000", "0 1025 0", 0x40100000);
        dueDigits("LG 9999", "0 1024 268429626", 0x400fffe9);
        dueDigits("LG 10001", "0 1025 2914", 0x4010000b);
        dueDigits("LG 99", "0 1023 267263787", 0x3fffee1f);
        dueDigits("LG 35864", "0 1025 37222517", 0x401237f8);
    }

    private static void dueFloor(String answer, int due) {
        Factorweights on = Given.answers(answer);
        Check.dueTold(on, "20: " + answer, () -> on.answerFloor(0), due);
    }

    private static void floorsRoundDown() {
        dueFloor("LN 1", 0);
        dueFloor("LN 2", 0);
        dueFloor("LN 2^-1", -1);
        dueFloor("LG 2^-1", -1);
        dueFloor("LN 2^-2", -2);
        dueFloor("LG 9", 0);
        dueFloor("LG 10", 1);
        dueFloor("LG 9999", 3);
        dueFloor("LG 10000", 4);
        dueFloor("LN 22026", 9);
        dueFloor("LN 22027", 10);
        dueFloor("LN 2^1000", 693);
        dueFloor("LN 2^-1000", -694);
        dueFloor("LG 2^1000", 301);
        dueFloor("LG 2^-1000", -302);
        dueFloor("LN 2^-12", -9);
        Factorweights on = Given.answers("LN 2^-12");
        on.answerFloor(0);
        Check.due("20: a floor of -9 is told, not counted", on.house(3), 0);
        Check.dueIndex(on, "20: cell -1", () -> on.answerFloor(-1));
    }

    private static void placesOfNoneAndNine() {
        Factorweights on = Given.answers("LN 2", "LG 10000", "LN 2^-1", "LG 9999", "LN 1");
        for (int cell = 0; cell < 5; cell++) {
            Check.due("21: no place is 0 in cell " + cell, on.answerPlaces(cell, 0), 0);
        }
        Check.due("21: one place", on.answerPlaces(0, 1), 6);
        Check.due("21: eight places", on.answerPlaces(0, 8), 69314718);
        Check.due("21: nine places", on.answerPlaces(0, 9), 693147180);
        for (int places = 0; places <= 9; places++) {
            Check.due("21: of a whole one " + places, on.answerPlaces(1, places), 0);
            Check.due("21: of 0 " + places, on.answerPlaces(4, places), 0);
        }
        Check.due("21: up to 10^p - 1, one place", on.answerPlaces(3, 1), 9);
        Check.due("21: up to 10^p - 1, four places", on.answerPlaces(3, 4), 9999);
        Check.due("21: five places", on.answerPlaces(3, 5), 99995);
        Check.dueArgument(on, "21: ten places", () -> on.answerPlaces(0, 10));
        Check.dueArgument(on, "21: -1 places", () -> on.answerPlaces(0, -1));
        Check.dueIndex(on, "21: the cell is named first", () -> on.answerPlaces(-1, -1));
    }

    private static void placesBelowZeroRoundDown() {
        Factorweights on = Given.answers("LN 2^-1", "LN 2^-1000", "LG 2^-1000", "LG 2^-1", "LG 2^-10");
        Check.due("21: -0.693147180559...", on.answerPlaces(0, 9), 306852819);
        Check.due("21: three places", on.answerPlaces(0, 3), 306);
        Check.due("21: one place", on.answerPlaces(0, 1), 3);
        Check.due("21: -693.147180559945...", on.answerPlaces(1, 9), 852819440);
        Check.due("21: -301.029995663981...", on.answerPlaces(2, 9), 970004336);
        Check.due("21: -0.301029995663...", on.answerPlaces(3, 9), 698970004);
        Check.due("21: -3.010299956639..., one place", on.answerPlaces(4, 1), 9);
        Check.due("21: -3.010299956639..., two places", on.answerPlaces(4, 2), 98);
    }

    /** LN 20328 is the nearest one of the SET to a line, just above it, LN 23991 the next, just below. */
    private static void placesNearALine() {
        Factorweights on = Given.answers("LN 20328", "LN 23991", "LG 29537", "LN 22027", "LN 22026", "LG 10001");
        Check.due("21: LN 20328", on.answerPlaces(0, 9), 919754525);
        Check.due("21: LN 23991", on.answerPlaces(1, 9), 85434038);
        Check.due("21: LG 29537", on.answerPlaces(2, 9), 470366383);
        Check.due("21: LN 22027, four places", on.answerPlaces(3, 4), 0);
        Check.due("21: LN 22027, five places", on.answerPlaces(3, 5), 2);
        Check.due("21: LN 22026, four places", on.answerPlaces(4, 4), 9999);
        Check.due("21: LG 10001, nine places", on.answerPlaces(5, 9), 43427);
    }

    private static void wholesFrom0To4() {
        Factorweights on = Given.answers("LG 1", "LG 10", "LG 100", "LG 1000", "LG 10000", "LN 1");
        for (int cell = 0; cell < 6; cell++) {
            int at = cell;
            Check.dueTold(on, "22: cell " + cell, () -> on.answerWhole(at), cell < 5 ? cell : 0);
        }
        Check.dueIndex(on, "22: cell -1", () -> on.answerWhole(-1));
        Check.dueIndex(on, "22: cell 8", () -> on.answerWhole(8));
    }

    private static void notWholeBesidesThem() {
        String[] others = {"LN 10", "LN 100", "LN 10000", "LG 9", "LG 11", "LG 9999", "LG 10001", "LG 20", "LG 2^-1",
            "LG 65536", "LG 2^1000", "LN 2^-1000", "LN 20328", "LN 2"};
        for (String answer : others) {
            Factorweights on = Given.answers(answer);
            Check.dueNothing(on, "22: " + answer, () -> on.answerWhole(0));
        }
    }

    private static void orderOfLikeNearAndFar() {
        Factorweights on = Given.answers("LN 42", "LG 5466", "LN 2^-1000", "LN 2^1000", "LG 10000", "LG 9999", "LG 1");
        for (int how = 0; how <= 1; how++) {
            Check.due("23: near ones, less", on.answerOrder(0, 1, how), -1);
            Check.due("23: near ones, greater", on.answerOrder(1, 0, how), 1);
            Check.due("23: the ends, less", on.answerOrder(2, 3, how), -1);
            Check.due("23: the ends, greater", on.answerOrder(3, 2, how), 1);
            Check.due("23: a whole one and the one before", on.answerOrder(4, 5, how), 1);
            Check.due("23: both KINDS at 1", on.answerOrder(6, 7, how), 0);
            for (int cell = 0; cell < 8; cell++) {
                Check.due("23: itself", on.answerOrder(cell, cell, how), 0);
            }
        }
    }

    private static void howIs0Or1() {
        Factorweights on = new Factorweights();
        Check.dueArgument(on, "23: how 2", () -> on.answerOrder(0, 1, 2));
        Check.dueArgument(on, "23: how -1", () -> on.answerOrder(0, 1, -1));
        Check.dueIndex(on, "23: one is named first", () -> on.answerOrder(8, 0, 2));
        Check.dueIndex(on, "23: other is named first", () -> on.answerOrder(0, -1, 2));
    }

    private static void belowOrLike() {
        Factorweights on = Given.answers("LN 42", "LG 5466", "LG 1", "LG 5466");
        Check.dueTold(on, "25: less", () -> on.answerBelow(0, 1, false), true);
        Check.dueTold(on, "25: less, LIKE ones are meant, too", () -> on.answerBelow(0, 1, true), true);
        Check.dueTold(on, "25: greater", () -> on.answerBelow(1, 0, false), false);
        Check.dueTold(on, "25: greater, LIKE ones are meant, too", () -> on.answerBelow(1, 0, true), false);
        Check.dueTold(on, "25: LIKE", () -> on.answerBelow(1, 3, false), false);
        Check.dueTold(on, "25: LIKE, and they are meant, too", () -> on.answerBelow(1, 3, true), true);
        Check.dueTold(on, "25: both KINDS at 1", () -> on.answerBelow(2, 4, false), false);
        Check.dueTold(on, "25: both KINDS at 1, and LIKE", () -> on.answerBelow(4, 2, true), true);
        Check.dueIndex(on, "25: one 8", () -> on.answerBelow(8, 0, false));
        Check.dueIndex(on, "25: other -1", () -> on.answerBelow(0, -1, false));
        Check.dueIndex(on, "24: one -1", () -> on.answerLike(-1, 0));
        Check.dueIndex(on, "24: other -1", () -> on.answerLike(0, -1));
    }

    private static void findTheFirstAndTheLast() {
        Factorweights on = Given.answers("LN 2", "LG 1", "LN 3", "LN 2", "LN 1", "LN 3", "LN 5", "LN 2");
        int[] first = {0, 1, 2, 0, 1, 2, 6, 0};
        int[] last = {7, 4, 5, 7, 4, 5, 6, 7};
        for (int cell = 0; cell < 8; cell++) {
            int at = cell;
            Check.dueTold(on, "26: the first of cell " + cell, () -> on.answerFind(at, false), first[cell]);
            Check.dueTold(on, "26: the last of cell " + cell, () -> on.answerFind(at, true), last[cell]);
        }
        Check.dueIndex(on, "26: cell 8", () -> on.answerFind(8, false));
        Check.dueIndex(on, "26: cell -1", () -> on.answerFind(-1, true));
    }
}
