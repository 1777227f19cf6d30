import java.math.BigInteger;
import java.util.ArrayList;
import java.util.List;

/** Each sentence of section 7 and of promises 52 to 55 that names a boundary case, by itself. */
final class WholeBoundsTest {
    private static final int MOST_CALLS = 512;
    /** Found by hand from the document: 8 * (1072693248, 1, 1, 0), 8 * (1, 0), 8 * (0, 0, 0, 0, 7), and so on. */
    private static final long DIGEST_OF_NEW = 8253284159345168393L;

    private WholeBoundsTest() {
    }

    public static void main(String[] args) {
        actsCountAlsoIfAllStays();
        whatToldNothingIsNoAct();
        whatThrewIsNoAct();
        whatAsksIsNoAct();
        eachNothingCountsOnce();
        aNumberThatIsMinusNineCountsNothing();
        noneInPlaceOfMinusNineCountsNothing();
        whatIsFrom0To4();
        knocksFromTheFirstOn();
        theLastOfAllCalls();
        soundAtTheEnds();
        soundAsksWithoutCounting();
        digestOfANewObject();
        digestWrapsAround();
        digestAsksWithoutCounting();
        digestTellsEachChange();
        Check.end();
    }

    private static void dueCounts(Factorweights on, String call, String due) {
        Check.due("52: " + call, Given.counts(on), due);
        Check.due("52: " + call + ", asked again", Given.counts(on), due);
    }

    private static void actsCountAlsoIfAllStays() {
        String[] acts = {"putWhole 0 1", "putPower 0 0", "putCopy 0 0", "times 0 0 0", "over 0 0 0", "numberSort",
            "answer 0 0 0", "answerMax 0 0 0", "answerMin 0 0 0", "answerSort", "answerEnd 1 0",
            "heapPrimes 0 0", "heapClear 0", "heapCopy 0 0"};
        for (int at = 0; at < acts.length; at++) {
            Factorweights on = new Factorweights();
            Check.due("52: " + acts[at] + " changes nothing", Face.play(on, acts[at]), 0);
            dueCounts(on, acts[at], at < 6 ? "1 0 0 0 0" : at < 11 ? "0 1 0 0 0" : "0 0 1 0 0");
        }
        Factorweights on = new Factorweights();
        on.up(0);
        on.heapAdd(0, 0);
        on.heapTake(0);
        dueCounts(on, "up, heapAdd, heapTake", "1 0 2 0 0");
    }

    private static void whatToldNothingIsNoAct() {
        String[] refused = {"times 0 1 2", "over 0 1 2", "up 0", "up 2", "heapAdd 0 0", "heapAdd 1 7", "heapTake 0",
            "heapPrimes 0 0"};
        for (String call : refused) {
            Factorweights on = full();
            String before = Given.counts(on);
            Check.due("52: " + call, Face.play(on, call), -9);
            dueCounts(on, call, withOneMore(before));
        }
    }

    /** The NUMBER cells 0 to 2 have 2^1000, 3 and 65536, the HEAP 0 is empty, the HEAP 1 full. */
    private static Factorweights full() {
        Factorweights on = Given.heaps(Given.row(), Given.times(16, 65536));
        Given.put(on, 0, "2^1000");
        Given.put(on, 1, "3");
        Given.put(on, 2, "65536");
        return on;
    }

    private static String withOneMore(String counts) {
        String[] words = counts.split(" ");
        words[3] = String.valueOf(Integer.parseInt(words[3]) + 1);
        return String.join(" ", words);
    }

    private static void whatThrewIsNoAct() {
        String[] wrong = {"putWhole 0 0", "putWhole 8 1", "putPower 0 1001", "putCopy 0 8", "times 0 0 8", "over 8 0 0", "up 8",
            "answer 8 0 0", "answerMax 0 0 8", "answerMin 0 8 0", "answerEnd 0 8", "heapAdd 4 0", "heapTake -1",
            "heapPrimes 0 8", "heapClear 4", "heapCopy 0 4", "wholeOf 8", "answerWhole 8", "heapAt 0 16", "house 5"};
        Factorweights on = new Factorweights();
        for (String call : wrong) {
            Check.due("52: " + call + " throws", Face.play(on, call) instanceof Class, true);
        }
        dueCounts(on, "what threw", "0 0 0 0 0");
    }

    private static void whatAsksIsNoAct() {
        Factorweights on = new Factorweights();
        String[] asking = {"wholeOf 0", "powerOf 0", "numberUpper 0", "numberText 0", "answerUpper 0", "answerText 0",
            "answerFloor 0", "answerPlaces 0 9", "answerWhole 0", "answerOrder 0 1 0", "answerLike 0 1", "answerBelow 0 1 0",
            "answerFind 0 0", "digits 0", "binaryDigits 0", "powerByLogs 0", "digitsIn 0 2", "quotient 0 2", "isTenth 0",
            "mirror 0", "step 0 0", "stepSound 0", "primes 0", "primesNear 0 0", "pairNear 0 1 0", "factorialDigits 9 0",
            "heapSize 0", "heapProduct 0", "house 0", "isSound", "digest"};
        for (String call : asking) {
            Face.play(on, call);
        }
        dueCounts(on, "what only asks", "0 0 0 0 0");
    }

    private static void eachNothingCountsOnce() {
        String[] nothings = {"wholeOf 0", "answerWhole 0", "binaryDigits 0", "digitsIn 2 2", "quotient 2 2", "mirror 1",
            "step 2 0", "step 0 1", "stepSound 2", "primes 0", "primesNear 0 0", "pairNear 2 1 0", "pairNear 0 0 1", "heapAt 0 0",
            "heapAt 1 15", "heapOrder 1 1 0", "heapAgainst 1 2 1", "heapDigits 0", "heapBinaryDigits 0"};
        for (String call : nothings) {
            Factorweights on = full();
            on.heapClear(1);
            on.heapAdd(1, 2);
            on.answer(1, true, 0);
            String before = Given.counts(on);
            Check.due("52: " + call, String.valueOf(Face.play(on, call)), "-9");
            dueCounts(on, call, withOneMore(before));
            Face.play(on, call);
            dueCounts(on, call + " again", withOneMore(withOneMore(before)));
        }
    }

    private static void aNumberThatIsMinusNineCountsNothing() {
        Factorweights on = Given.numbers("2^-9", "2^-30");
        Given.answer(on, 0, "LN 2^-12");
        String before = Given.counts(on);
        Check.due("52: a k of -9", on.powerOf(0), -9);
        Check.due("52: a k of -9 by logarithms", on.powerByLogs(0), -9);
        Check.due("52: DIGITS of -9", on.digits(1), -9);
        Check.due("52: a floor of -9", on.answerFloor(0), -9);
        dueCounts(on, "numbers that are -9", before);
    }

    private static void noneInPlaceOfMinusNineCountsNothing() {
        Factorweights on = Given.numbers("3");
        Check.due("52: no POWER", on.powerOf(0), -2147483648);
        Check.due("52: no POWER by logarithms", on.powerByLogs(0), -2147483648);
        dueCounts(on, "-2147483648", "1 0 0 0 0");
    }

    private static void whatIsFrom0To4() {
        Factorweights on = full();
        on.knock();
        Check.dueTold(on, "52: the least", () -> on.house(0), 19);
        Check.dueTold(on, "52: the greatest", () -> on.house(4), 1);
        Check.dueArgument(on, "52: -1", () -> on.house(-1));
        Check.dueArgument(on, "52: 5", () -> on.house(5));
        Check.dueArgument(on, "52: 2147483647", () -> on.house(2147483647));
        Check.dueArgument(on, "52: -2147483648", () -> on.house(-2147483648));
    }

    private static void knocksFromTheFirstOn() {
        Factorweights on = new Factorweights();
        String before = Given.state(on);
        Check.due("53: none", on.house(4), 0);
        Check.due("53: the first", on.knock(), 1);
        Check.due("53: the second", on.knock(), 2);
        Check.due("53: told", on.house(4), 2);
        Check.due("53: no more is changed", Given.state(on), before.substring(0, before.length() - 1) + "2");
    }

    private static void theLastOfAllCalls() {
        Factorweights knocked = new Factorweights();
        Factorweights put = new Factorweights();
        Factorweights refused = new Factorweights();
        Factorweights sound = new Factorweights();
        for (int call = 1; call < MOST_CALLS; call++) {
            knocked.knock();
            put.putPower(call % 8, call);
            refused.heapTake(call % 4);
            sound.digest();
        }
        Check.due("the last call: knock", knocked.knock(), MOST_CALLS);
        Check.due("the last call: house of acts", put.house(0), MOST_CALLS - 1);
        Check.due("the last call: house of -9s", refused.house(3), MOST_CALLS - 1);
        Check.due("the last call: isSound", sound.isSound(), true);
    }

    private static void soundAtTheEnds() {
        for (String[] state : EdgeSweepTest.STATES) {
            Factorweights on = new Factorweights();
            for (String call : state) {
                Face.play(on, call);
                Check.due("54: after " + call, on.isSound(), true);
            }
        }
        Factorweights on = Given.heaps(Given.times(16, 65536), Given.times(16, 65535), Given.times(16, 1));
        Check.due("54: full HEAPS", on.isSound(), true);
    }

    private static void soundAsksWithoutCounting() {
        for (String[] state : EdgeSweepTest.STATES) {
            Factorweights on = new Factorweights();
            for (String call : state) {
                Face.play(on, call);
            }
            String before = Given.state(on);
            on.isSound();
            Check.due("54: what is asked counts nothing", Given.state(on), before);
        }
    }

    private static void digestOfANewObject() {
        Check.due("55: a new object", new Factorweights().digest(), DIGEST_OF_NEW);
    }

    private static void digestWrapsAround() {
        for (String[] state : EdgeSweepTest.STATES) {
            for (int length = 0; length <= state.length; length++) {
                Factorweights on = new Factorweights();
                Factorweights twin = new Factorweights();
                for (int at = 0; at < length; at++) {
                    Face.play(on, state[at]);
                    Face.play(twin, state[at]);
                }
                BigInteger sum = BigInteger.valueOf(7920);
                for (long value : valuesOf(twin)) {
                    sum = sum.multiply(BigInteger.valueOf(31)).add(BigInteger.valueOf(value));
                }
                Check.due("55: passes 64 binary digits", sum.bitLength() > 64, true);
                Check.due("55: wraps around, after " + length + " calls", on.digest(), sum.longValue());
            }
        }
    }

    /** In the document's order; what is asked here counts, so the counts are asked first. */
    private static List<Long> valuesOf(Factorweights twin) {
        List<Long> counts = told(twin, "house 0", "house 1", "house 2", "house 3", "house 4");
        List<Long> values = new ArrayList<>();
        for (int cell = 0; cell < 8; cell++) {
            values.addAll(told(twin, "numberUpper " + cell, "digits " + cell, "wholeOf " + cell, "powerOf " + cell));
        }
        for (int cell = 0; cell < 8; cell++) {
            if (twin.wholeOf(cell) != -9) {
                values.addAll(told(twin, "binaryDigits " + cell));
                values.add((long) Model.primesOf(twin.wholeOf(cell)).size());
            }
        }
        addAnswers(twin, values);
        addHeaps(twin, values);
        values.addAll(counts);
        values.add(1L);
        return values;
    }

    private static void addAnswers(Factorweights twin, List<Long> values) {
        for (int cell = 0; cell < 8; cell++) {
            values.addAll(told(twin, "answerUpper " + cell, "answerFloor " + cell, "answerPlaces " + cell + " 9",
                "answerFind " + cell + " 0", "answerFind " + cell + " 1"));
        }
        for (int one = 0; one < 8; one++) {
            for (int other = one + 1; other < 8; other++) {
                values.addAll(told(twin, "answerOrder " + one + " " + other + " 0"));
            }
        }
    }

    private static void addHeaps(Factorweights twin, List<Long> values) {
        for (int heap = 0; heap < 4; heap++) {
            values.addAll(told(twin, "heapSize " + heap));
            for (int at = 0; at < twin.heapSize(heap); at++) {
                values.addAll(told(twin, "heapAt " + heap + " " + at));
            }
            values.addAll(told(twin, "heapDigits " + heap, "heapBinaryDigits " + heap));
        }
        for (int one = 0; one < 4; one++) {
            for (int other = one + 1; other < 4; other++) {
                values.addAll(told(twin, "heapOrder " + one + " " + other + " 0"));
            }
        }
    }

    private static List<Long> told(Factorweights twin, String... calls) {
        List<Long> values = new ArrayList<>();
        for (String call : calls) {
            values.add(((Number) Face.play(twin, call)).longValue());
        }
        return values;
    }

    private static void digestAsksWithoutCounting() {
        for (String[] state : EdgeSweepTest.STATES) {
            Factorweights on = new Factorweights();
            for (String call : state) {
                Face.play(on, call);
            }
            String before = Given.state(on);
            long digest = on.digest();
            Check.due("55: what is asked counts nothing", Given.state(on), before);
            Check.due("55: so it stays", on.digest(), digest);
        }
    }

    private static void digestTellsEachChange() {
        Factorweights on = full();
        String[] changes = {"putWhole 7 5", "putPower 7 -1", "answer 7 0 7", "answer 7 1 7", "heapAdd 3 2", "heapTake 1",
            "knock", "heapTake 2", "putWhole 7 6", "up 7"};
        for (String change : changes) {
            long before = on.digest();
            Face.play(on, change);
            Check.due("55: another one after " + change, on.digest() != before, true);
        }
    }
}
