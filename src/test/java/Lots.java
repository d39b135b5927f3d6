/** Numbers by lot, always the same for the same start. */
final class Lots {
    private long last;

    Lots(long start) {
        last = start;
    }

    /** 0 .. below - 1. */
    int next(int below) {
        last = last * 6364136223846793005L + 1442695040888963407L;
        return (int) ((last >>> 33) % below);
    }

    boolean oneOf(int many) {
        return next(many) == 0;
    }
}
