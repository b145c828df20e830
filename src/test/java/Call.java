import java.util.function.ToIntFunction;

/** One call on an object, and the name by which a test tells it. */
record Call(String name, ToIntFunction<HashSigner> body) {
    int on(HashSigner x) {
        return body.applyAsInt(x);
    }
}
