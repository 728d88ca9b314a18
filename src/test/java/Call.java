import java.util.function.ToLongFunction;

/** A call of the face with its arguments; a boolean counts 1 or NONE. */
record Call(String name, ToLongFunction<CorkStreet> call) {
}
