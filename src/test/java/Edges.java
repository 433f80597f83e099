import java.util.stream.IntStream;

/** The ints at the ends of a range and beyond them. */
final class Edges {
    static final int LEAST = Integer.MIN_VALUE, MOST = Integer.MAX_VALUE;

    private Edges() {
    }

    /** Below the least, above the greatest, and as far as an int goes; none of them is within. */
    static int[] outside(int least, int greatest) {
        int size = greatest - least + 1;
        return IntStream.of(LEAST, LEAST + 1, least - size, least - 2, least - 1,
                greatest + 1, greatest + 2, greatest + size, MOST - 1, MOST,
                // These look as if they were within, where only a byte or a short of them counts.
                least - 65536, least - 256, least + 256, least + 65536, least + LEAST)
                .filter(number -> number < least || number > greatest).distinct().toArray();
    }
}
