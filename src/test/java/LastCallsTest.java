import java.util.ArrayList;
import java.util.List;
import java.util.function.IntFunction;

/**
 * "An object is used for at most 512 calls after it has been made": each promise holds up to the last of these.
 * A run of 512 calls is held against a short one, in which the calls that leave all as it is are not there.
 */
public final class LastCallsTest {
    private static final int MOST_CALLS = 512;
    /** How many bytes THE SIGNATURE of the setting has. */
    private static final int SIZE = 456;

    /** A KEY, a text, a HASH, and a SIGNATURE that was the last to be made and verified. */
    private static final List<Call> SETTING = List.of(
        new Call("shape", x -> x.shape(1, 8, 2, 2, 3, 4)), new Call("seed 0", x -> x.seed(0, 1, 2)),
        new Call("seed 1", x -> x.seed(1, 3, 4)), new Call("seed 2", x -> x.seed(2, 5, 6)),
        new Call("feed", x -> x.feed(1, 2, 3, 4, 5)), new Call("hash", x -> x.hash(1)), new Call("key", HashSigner::key),
        new Call("sign", HashSigner::sign), new Call("verify", HashSigner::verify));

    /** Calls that leave all as it is behind the setting: dear ones, looks and refused ones. */
    private static final List<Call> STILL = List.of(
        new Call("key", HashSigner::key), new Call("sign", HashSigner::sign), new Call("verify", HashSigner::verify),
        new Call("hash", x -> x.hash(1)), new Call("trim", x -> x.trim(20)), new Call("cut", x -> x.cut(SIZE)),
        new Call("hashByte", x -> x.hashByte(31)), new Call("root", x -> x.root(7)),
        new Call("signed", x -> x.signed(0)), new Call("ledTo", x -> x.ledTo(7)), new Call("index", x -> x.index(5)),
        new Call("leaf", x -> x.leaf(0, 3, 3, 7)), new Call("told", x -> x.told(1)),
        new Call("refused shape", x -> x.shape(0, 4, 1, 1, 1, 7)), new Call("refused seed", x -> x.seed(3, 0, 0)),
        new Call("refused alter", x -> x.alter(0, 256)), new Call("refused hash", x -> x.hash(2)));

    private final Due due = new Due();

    public static void main(String[] args) {
        LastCallsTest test = new LastCallsTest();
        test.tapeAtTheEnd();
        test.keyAtTheEnd();
        test.signatureAtTheEnd();
        test.everyCallIsTheLast();
        test.everyRefusalIsTheLast();
        test.theSameCallAllTheWay();
        test.feedAllTheWay();
        test.alterAllTheWay();
        test.anotherKeyAllTheWay();
        test.due.end();
    }

    private static List<Integer> answers(HashSigner x, List<Call> calls) {
        List<Integer> all = new ArrayList<>();
        for (Call call : calls) {
            all.add(call.on(x));
        }
        return all;
    }

    /** The calls come as the last ones of 512, and once more without those that stand between. */
    private void holdLast(List<Call> calls) {
        HashSigner brief = new HashSigner();
        answers(brief, SETTING);
        List<Integer> want = answers(brief, calls);
        HashSigner x = new HashSigner();
        answers(x, SETTING);
        for (int i = SETTING.size(); i < MOST_CALLS - calls.size(); i++) {
            STILL.get(i % STILL.size()).on(x);
        }
        List<Integer> got = answers(x, calls);
        for (int i = 0; i < calls.size(); i++) {
            int number = MOST_CALLS - calls.size() + i + 1;
            due.is("call " + number + ", " + calls.get(i).name(), got.get(i), want.get(i));
        }
    }

    private static List<Call> rowOf(int length, IntFunction<Call> call) {
        List<Call> calls = new ArrayList<>();
        for (int i = -1; i <= length; i++) {
            calls.add(call.apply(i));
        }
        return calls;
    }

    private static Call hashByte(int i) {
        return new Call("hashByte(" + i + ")", x -> x.hashByte(i));
    }

    private static Call root(int i) {
        return new Call("root(" + i + ")", x -> x.root(i));
    }

    private static Call signed(int i) {
        return new Call("signed(" + i + ")", x -> x.signed(i));
    }

    private static Call ledTo(int i) {
        return new Call("ledTo(" + i + ")", x -> x.ledTo(i));
    }

    private static Call index(int i) {
        return new Call("index(" + i + ")", x -> x.index(i));
    }

    private static Call leaf(int i) {
        return new Call("leaf(1, 0, 2, " + i + ")", x -> x.leaf(1, 0, 2, i));
    }

    private static Call told(int i) {
        return new Call("told(" + i + ")", x -> x.told(i));
    }

    private void tapeAtTheEnd() {
        List<Call> calls = new ArrayList<>();
        calls.add(new Call("trim(7)", x -> x.trim(7)));
        for (int i = 0; i < 30; i++) {
            int word = i;
            calls.add(new Call("feed " + i, x -> x.feed(word, -word, 3, word * word, ~word)));
        }
        calls.add(new Call("hash(0)", x -> x.hash(0)));
        calls.addAll(rowOf(32, LastCallsTest::hashByte));
        calls.add(new Call("hash(1)", x -> x.hash(1)));
        calls.addAll(rowOf(32, LastCallsTest::hashByte));
        holdLast(calls);
    }

    private void keyAtTheEnd() {
        List<Call> calls = new ArrayList<>();
        calls.add(new Call("shape", x -> x.shape(0, 16, 2, 2, 4, 6)));
        calls.add(new Call("seed 0", x -> x.seed(0, 7, 8)));
        calls.add(new Call("seed 1", x -> x.seed(1, 9, 10)));
        calls.add(new Call("seed 2", x -> x.seed(2, 11, 12)));
        calls.add(new Call("key", HashSigner::key));
        calls.addAll(rowOf(16, LastCallsTest::root));
        calls.addAll(rowOf(16, LastCallsTest::leaf));
        calls.addAll(rowOf(6, LastCallsTest::told));
        holdLast(calls);
    }

    private void signatureAtTheEnd() {
        List<Call> calls = new ArrayList<>();
        calls.add(new Call("signWith", x -> x.signWith(13, 14)));
        calls.addAll(rowOf(6, LastCallsTest::index));
        calls.addAll(rowOf(100, LastCallsTest::signed));
        calls.add(new Call("alter", x -> x.alter(77, 200)));
        calls.add(new Call("verify", HashSigner::verify));
        calls.addAll(rowOf(8, LastCallsTest::ledTo));
        calls.add(new Call("cut", x -> x.cut(99)));
        calls.add(new Call("verify", HashSigner::verify));
        calls.add(new Call("sign", HashSigner::sign));
        calls.addAll(rowOf(6, LastCallsTest::index));
        calls.add(new Call("verify", HashSigner::verify));
        calls.addAll(rowOf(8, LastCallsTest::ledTo));
        holdLast(calls);
    }

    private void everyCallIsTheLast() {
        for (Call call : List.of(new Call("feed", x -> x.feed(1, 2, 3, 4, 5)), new Call("trim", x -> x.trim(3)),
            new Call("hash", x -> x.hash(0)), hashByte(0), new Call("shape", x -> x.shape(0, 12, 1, 1, 2, 2)),
            new Call("seed", x -> x.seed(2, 3, 4)), new Call("key", HashSigner::key), root(0),
            new Call("sign", HashSigner::sign), new Call("signWith", x -> x.signWith(1, 1)), signed(0),
            new Call("alter", x -> x.alter(0, 0)), new Call("cut", x -> x.cut(5)),
            new Call("verify", HashSigner::verify), ledTo(0), index(2), leaf(0), told(0), told(1), told(5))) {
            holdLast(List.of(call));
        }
    }

    private void everyRefusalIsTheLast() {
        for (Call call : List.of(new Call("trim(21)", x -> x.trim(21)), new Call("hash(2)", x -> x.hash(2)),
            hashByte(32), new Call("shape", x -> x.shape(0, 12, 3, 1, 2, 2)), new Call("seed", x -> x.seed(3, 3, 4)),
            root(8), signed(-1), new Call("alter", x -> x.alter(-1, 0)), new Call("cut", x -> x.cut(-1)), ledTo(8),
            index(6), leaf(8), new Call("leaf(2, ..)", x -> x.leaf(2, 0, 0, 0)), told(6))) {
            holdLast(List.of(call));
        }
        Call seed = new Call("seed", x -> x.seed(0, 0, 0));
        holdLast(List.of(seed, new Call("sign", HashSigner::sign)));
        holdLast(List.of(seed, new Call("signWith", x -> x.signWith(0, 0))));
        holdLast(List.of(seed, new Call("verify", HashSigner::verify)));
        holdLast(List.of(seed, root(0)));
        List<Call> feeds = new ArrayList<>();
        for (int i = 0; i < 30; i++) {
            feeds.add(new Call("feed", x -> x.feed(1, 2, 3, 4, 5)));
        }
        holdLast(feeds);
    }

    /** Each answer of the same call, up to the last one that may be asked. */
    private void theSameCallAllTheWay() {
        for (Call call : List.of(new Call("key", HashSigner::key), new Call("sign", HashSigner::sign),
            new Call("signWith", x -> x.signWith(1, 2)), new Call("verify", HashSigner::verify),
            new Call("hash", x -> x.hash(0)), new Call("seed", x -> x.seed(1, 2, 3)),
            new Call("shape", x -> x.shape(0, 16, 2, 2, 4, 6)), new Call("trim", x -> x.trim(9)),
            new Call("cut", x -> x.cut(SIZE)), leaf(7), hashByte(9), root(1), signed(3), ledTo(2),
            index(4), told(2))) {
            HashSigner x = new HashSigner();
            answers(x, SETTING);
            int first = call.on(x);
            due.is(call.name() + ": no refusal", first >= 0 ? 1 : 0, 1);
            for (int number = SETTING.size() + 2; number <= MOST_CALLS; number++) {
                due.is("call " + number + ", " + call.name(), call.on(x), first);
            }
        }
    }

    private void feedAllTheWay() {
        HashSigner x = new HashSigner();
        for (int number = 1; number <= MOST_CALLS; number++) {
            due.is("call " + number + ", feed", x.feed(1, 2, 3, 4, 5), number <= 30 ? 20 * number : HashSigner.FULL);
        }
    }

    private void alterAllTheWay() {
        HashSigner x = new HashSigner();
        answers(x, SETTING);
        x.alter(SIZE - 1, 0);
        for (int number = SETTING.size() + 2; number <= MOST_CALLS; number++) {
            due.is("call " + number + ", alter", x.alter(SIZE - 1, number % 256),
                number == SETTING.size() + 2 ? 0 : (number - 1) % 256);
        }
    }

    /** The dearest way there is: nothing that was made for one KEY serves for the next one. */
    private void anotherKeyAllTheWay() {
        HashSigner x = new HashSigner();
        x.shape(1, 16, 2, 2, 4, 6);
        x.feed(1, 2, 3, 4, 5);
        int count = 2;
        for (int i = 0; count + 4 <= MOST_CALLS; i++) {
            due.is("seed " + i, x.seed(i % 3, i, -i), 1);
            due.is("key " + i, x.key(), 1);
            due.is("sign " + i, x.sign(), 1680);
            due.is("verify " + i, x.verify(), 1);
            count += 4;
        }
    }
}
