import java.util.NoSuchElementException;

/** The exceptions that the document names. */
final class Due {
    static final Class<?> INDEX = IndexOutOfBoundsException.class;
    static final Class<?> ARGUMENT = IllegalArgumentException.class;
    static final Class<?> STATE = IllegalStateException.class;
    static final Class<?> NO_ELEMENT = NoSuchElementException.class;
    static final Class<?> UNSUPPORTED = UnsupportedOperationException.class;
    static final Class<?> ARITHMETIC = ArithmeticException.class;

    private Due() {
    }
}
