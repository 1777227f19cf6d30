/** Promises 52 to 55: what is asked of the whole. RandomRunsTest holds the digest against the model's. */
final class WholeTest {
    private WholeTest() {
    }

    public static void main(String[] args) {
        house();
        knock();
        isSound();
        digest();
        Check.end();
    }

    private static void house() {
        Factorweights on = new Factorweights();
        on.putWhole(0, 1);
        on.putPower(0, 0);
        on.putCopy(0, 0);
        on.times(0, 0, 0);
        on.over(0, 0, 0);
        on.up(0);
        on.numberSort();
        Check.dueTold(on, "52: NUMBER acts", () -> on.house(0), 7);
        on.answer(0, true, 0);
        on.answerMax(0, 0, 0);
        on.answerMin(0, 0, 0);
        on.answerSort();
        on.answerEnd(true, 0);
        Check.dueTold(on, "52: ANSWER acts", () -> on.house(1), 5);
        on.heapAdd(0, 0);
        on.heapTake(0);
        on.heapPrimes(0, 0);
        on.heapClear(0);
        on.heapCopy(0, 0);
        Check.dueTold(on, "52: HEAP acts", () -> on.house(2), 5);
        Check.dueTold(on, "52: -9s", () -> on.house(3), 0);
        on.heapTake(0);
        on.heapDigits(0);
        Check.dueTold(on, "52: two -9s", () -> on.house(3), 2);
        Check.dueArgument(on, "52: what 5", () -> on.house(5));
        Check.dueArgument(on, "52: what -1", () -> on.house(-1));
    }

    private static void knock() {
        Factorweights on = new Factorweights();
        for (int count = 1; count <= 10; count++) {
            Check.due("53: knock " + count, on.knock(), count);
        }
        Check.due("53: house", on.house(4), 10);
        Check.due("53: no act", on.house(0) + on.house(1) + on.house(2) + on.house(3), 0);
    }

    private static void isSound() {
        Factorweights on = new Factorweights();
        Check.dueTold(on, "54: a new one", on::isSound, true);
        on.putPower(0, -1000);
        on.putPower(1, 1000);
        on.putWhole(2, 65536);
        for (int cell = 0; cell < 3; cell++) {
            on.answer(cell, cell == 1, cell + 3);
        }
        on.heapPrimes(0, 2);
        on.heapAdd(1, 2);
        Check.dueTold(on, "54: a filled one", on::isSound, true);
    }

    private static void digest() {
        Factorweights on = new Factorweights();
        Model model = new Model();
        Check.dueTold(on, "55: a new one", on::digest, model.digest());
        on.putPower(0, -9);
        model.putPower(0, -9);
        Check.dueTold(on, "55: after an act", on::digest, model.digest());
        on.heapTake(0);
        model.heapTake(0);
        Check.dueTold(on, "55: after a -9", on::digest, model.digest());
        on.knock();
        model.knock();
        Check.dueTold(on, "55: after a knock", on::digest, model.digest());
    }
}
