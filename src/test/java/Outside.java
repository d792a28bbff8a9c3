import java.util.stream.IntStream;

/** Numbers that can't be. */
final class Outside {

    /** Those that become a good number again where an index or a shorter type wraps around. */
    private static final int[] WRAPS = {1 << 5, 1 << 8, 1 << 16, 1 << 24, 1 << 28, 1 << 30};

    private Outside() {
    }

    /** Just below, just above, around the wraps, and at the ends of int. */
    static int[] of(int low, int high) {
        IntStream near = IntStream.of(low - 1, low - 2, high + 1, high + 2);
        IntStream wraps = IntStream.of(WRAPS).flatMap(wrap -> IntStream.of(low + wrap, high - wrap));
        IntStream ends = IntStream.of(Integer.MIN_VALUE, Integer.MIN_VALUE + 1, Integer.MIN_VALUE + high,
                Integer.MAX_VALUE, Integer.MAX_VALUE - 1);
        return IntStream.concat(IntStream.concat(near, wraps), ends)
                .filter(number -> number < low || number > high).distinct().toArray();
    }
}
