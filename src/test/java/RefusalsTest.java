import java.util.ArrayList;
import java.util.List;
import java.util.function.IntFunction;
import java.util.function.Supplier;

/**
 * "They change nothing": of two objects that went the same way one is asked what it refuses,
 * and all that is seen of both behind it is the same. Likewise for NONE and for calls that only look.
 */
public final class RefusalsTest {
    private static final String SIX = "1 4 2 2 2 2";
    private static final int SIZE = 124;
    private static final int TEXT = 33;

    private final Due due = new Due();

    public static void main(String[] args) {
        RefusalsTest test = new RefusalsTest();
        test.outsideOfTapeAndHash();
        test.outsideOfShape();
        test.outsideOfSeed();
        test.outsideOfSignature();
        test.outsideOfLeafAndTold();
        test.stateOfSigning();
        test.full();
        test.none();
        test.looks();
        test.due.end();
    }

    /** All there can be: a text, a HASH, a KEY, a SIGNATURE that was altered, and numbers of an earlier text. */
    private static HashSigner rich() {
        HashSigner x = new HashSigner();
        Help.shape(x, SIX);
        Help.seeds(x, Help.SEEDS);
        Help.feedText(x, 40);
        x.hash(1);
        x.key();
        x.signWith(3, 4);
        x.alter(SIZE - 1, 7);
        x.verify();
        x.trim(TEXT);
        return x;
    }

    private static HashSigner richWithoutKey() {
        HashSigner x = rich();
        x.seed(1, 5, 6);
        return x;
    }

    private static HashSigner richWithTape(int length) {
        HashSigner x = rich();
        x.trim(0);
        Help.feedText(x, length);
        return x;
    }

    private static HashSigner richWithSignature(int length) {
        HashSigner x = rich();
        x.cut(length);
        return x;
    }

    private void changesNothing(String state, Supplier<HashSigner> way, int answer, List<Call> calls) {
        String picture = Help.picture(way.get());
        for (Call call : calls) {
            HashSigner x = way.get();
            due.is(state + ": " + call.name(), call.on(x), answer);
            due.is(state + ": all behind " + call.name(), Help.picture(x), picture);
        }
    }

    private static List<Call> each(Iterable<Integer> numbers, IntFunction<Call> call) {
        List<Call> calls = new ArrayList<>();
        for (int number : numbers) {
            calls.add(call.apply(number));
        }
        return calls;
    }

    private void outsideOfTapeAndHash() {
        List<Call> calls = each(Help.outside(0, TEXT), n -> new Call("trim(" + n + ")", x -> x.trim(n)));
        calls.addAll(each(Help.outside(0, 1), form -> new Call("hash(" + form + ")", x -> x.hash(form))));
        changesNothing("rich", RefusalsTest::rich, HashSigner.OUTSIDE, calls);
        changesNothing("new", HashSigner::new, HashSigner.OUTSIDE,
            each(Help.outside(0, 0), n -> new Call("trim(" + n + ")", x -> x.trim(n))));
    }

    private static Call shapeWith(int place, int number) {
        int[] six = {0, 8, 1, 1, 1, 1};
        six[place] = number;
        return new Call("number " + place + " of shape is " + number, x -> Help.shape(x, six));
    }

    private void outsideOfShape() {
        int[][] ranges = {{0, 1}, {4, 16}, {1, 2}, {1, 2}, {1, 4}, {1, 6}};
        for (int place = 0; place < 6; place++) {
            int at = place;
            changesNothing("rich", RefusalsTest::rich, HashSigner.OUTSIDE,
                each(Help.outside(ranges[place][0], ranges[place][1]), number -> shapeWith(at, number)));
        }
        changesNothing("rich", RefusalsTest::rich, HashSigner.OUTSIDE,
            each(List.of(5, 6, 7, 9, 10, 11, 13, 14, 15), n -> shapeWith(1, n)));
        changesNothing("without a KEY", RefusalsTest::richWithoutKey, HashSigner.OUTSIDE, List.of(shapeWith(5, 7)));
    }

    private void outsideOfSeed() {
        List<Call> calls = each(Help.outside(0, 2), which -> new Call("seed(" + which + ", ..)",
            x -> x.seed(which, 0x1111111111111111L, 0x2222222222222222L)));
        changesNothing("rich", RefusalsTest::rich, HashSigner.OUTSIDE, calls);
    }

    private void outsideOfSignature() {
        List<Call> calls = each(Help.outside(0, SIZE), n -> new Call("cut(" + n + ")", x -> x.cut(n)));
        calls.addAll(each(Help.outside(0, SIZE - 1), i -> new Call("alter(" + i + ", 1)", x -> x.alter(i, 1))));
        calls.addAll(each(Help.outside(0, 255), b -> new Call("alter(0, " + b + ")", x -> x.alter(0, b))));
        calls.add(new Call("alter(-1, 256)", x -> x.alter(-1, 256)));
        changesNothing("rich", RefusalsTest::rich, HashSigner.OUTSIDE, calls);
        changesNothing("cut", () -> richWithSignature(7), HashSigner.OUTSIDE, List.of(
            new Call("cut(8)", x -> x.cut(8)), new Call("cut(124)", x -> x.cut(SIZE)),
            new Call("alter(7, 1)", x -> x.alter(7, 1)), new Call("alter(6, 256)", x -> x.alter(6, 256))));
    }

    private void outsideOfLeafAndTold() {
        List<Call> calls = each(Help.outside(0, 5), what -> new Call("told(" + what + ")", x -> x.told(what)));
        calls.addAll(each(Help.outside(0, 1), layer ->
            new Call("leaf(" + layer + ", 0, 0, 0)", x -> x.leaf(layer, 0, 0, 0))));
        calls.addAll(each(Help.outside(0, 3), tree ->
            new Call("leaf(0, " + tree + ", 0, 0)", x -> x.leaf(0, tree, 0, 0))));
        calls.addAll(each(Help.outside(0, 0), tree ->
            new Call("leaf(1, " + tree + ", 0, 0)", x -> x.leaf(1, tree, 0, 0))));
        calls.addAll(each(Help.outside(0, 3), u -> new Call("leaf(0, 1, " + u + ", 0)", x -> x.leaf(0, 1, u, 0))));
        changesNothing("rich", RefusalsTest::rich, HashSigner.OUTSIDE, calls);
    }

    private void stateOfSigning() {
        List<Call> calls = List.of(new Call("sign()", HashSigner::sign), new Call("verify()", HashSigner::verify),
            new Call("signWith(8, 9)", x -> x.signWith(8, 9)));
        changesNothing("without a KEY", RefusalsTest::richWithoutKey, HashSigner.STATE, calls);
        changesNothing("new", HashSigner::new, HashSigner.STATE, calls);
    }

    private void full() {
        List<Call> calls = List.of(new Call("feed(1, 2, 3, 4, 5)", x -> x.feed(1, 2, 3, 4, 5)),
            new Call("feed(0, 0, 0, 0, 0)", x -> x.feed(0, 0, 0, 0, 0)));
        for (int length = 581; length <= 600; length++) {
            int tape = length;
            changesNothing("a tape of " + tape, () -> richWithTape(tape), HashSigner.FULL, calls);
        }
    }

    private void none() {
        List<Call> calls = each(Help.outside(0, 31), i -> new Call("hashByte(" + i + ")", x -> x.hashByte(i)));
        calls.addAll(each(Help.outside(0, 3), i -> new Call("root(" + i + ")", x -> x.root(i))));
        calls.addAll(each(Help.outside(0, SIZE - 1), i -> new Call("signed(" + i + ")", x -> x.signed(i))));
        calls.addAll(each(Help.outside(0, 3), i -> new Call("ledTo(" + i + ")", x -> x.ledTo(i))));
        calls.addAll(each(Help.outside(0, 3), i -> new Call("index(" + i + ")", x -> x.index(i))));
        calls.addAll(each(Help.outside(0, 3), i -> new Call("leaf(0, 3, 3, " + i + ")", x -> x.leaf(0, 3, 3, i))));
        changesNothing("rich", RefusalsTest::rich, HashSigner.NONE, calls);
    }

    /** A look has its own answer each time: the same as that of the other object. */
    private void looks() {
        List<Call> calls = List.of(new Call("hashByte(0)", x -> x.hashByte(0)), new Call("root(3)", x -> x.root(3)),
            new Call("signed(123)", x -> x.signed(SIZE - 1)), new Call("ledTo(3)", x -> x.ledTo(3)),
            new Call("index(3)", x -> x.index(3)), new Call("leaf(0, 2, 1, 0)", x -> x.leaf(0, 2, 1, 0)),
            new Call("leaf(1, 0, 3, 0)", x -> x.leaf(1, 0, 3, 0)), new Call("told(5)", x -> x.told(5)),
            new Call("trim to what it has", x -> x.trim(TEXT)), new Call("cut to what it has", x -> x.cut(SIZE)),
            new Call("key() again", HashSigner::key));
        for (Call call : calls) {
            changesNothing("rich", RefusalsTest::rich, call.on(rich()), List.of(call));
        }
    }
}
