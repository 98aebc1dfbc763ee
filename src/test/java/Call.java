import java.util.function.ToLongFunction;

/** One call with its arguments, which can be made on any object; a boolean counts 1 or 0. */
record Call(String text, ToLongFunction<SpareTagFlash> body) {
    long on(SpareTagFlash flash) {
        return body.applyAsLong(flash);
    }
}
