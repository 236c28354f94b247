/** Numbers by lots: the same seed draws the same ones. */
final class Lots {
    private static final int[] WILD = {Integer.MIN_VALUE, Integer.MIN_VALUE + 1, -100000, -1000, -100, -14, -2, -1, 0, 1, 5,
        6, 7, 8, 10, 13, 14, 20, 21, 40, 41, 59, 60, 99, 100, 255, 256, 999, 1000, 1023, 1024, 99999, 100000, 65536,
        Integer.MAX_VALUE - 2, Integer.MAX_VALUE - 1, Integer.MAX_VALUE};

    private long state;

    Lots(int seed) {
        state = seed * 2654435761L + 12345;
        for (int i = 0; i < 4; i++) {
            below(2);
        }
    }

    int below(int bound) {
        state = state * 6364136223846793005L + 1442695040888963407L;
        return (int) ((state >>> 33) % bound);
    }

    boolean oneIn(int n) {
        return below(n) == 0;
    }

    int wild() {
        return WILD[below(WILD.length)];
    }
}
