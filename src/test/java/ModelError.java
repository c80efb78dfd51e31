/** An error by its code; without one it is an error again, which adds no code. */
final class ModelError extends RuntimeException {
    final String code;

    ModelError(String code) {
        super(code, null, false, false);
        this.code = code;
    }
}
