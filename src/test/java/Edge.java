import java.util.Arrays;

/** The numbers just outside a range, and those that a narrower number or a wrap-around would let in. */
final class Edge {
    private Edge() { }

    /** Numbers that are not 0 .. count - 1. */
    static int[] outside(int count) {
        return outside(0, count - 1);
    }

    /** Numbers that are not first .. last. */
    static int[] outside(int first, int last) {
        return new int[] {first - 1, last + 1, -last - 1, last + 256, last + 65_536,
            Integer.MIN_VALUE, Integer.MIN_VALUE + last, Integer.MAX_VALUE};
    }

    /** Numbers that are not 0 .. last. */
    static long[] outside(long last) {
        return new long[] {-1, last + 1, -last, 1L << 32, (1L << 32) + 5, -(1L << 32) + 5,
            Integer.MIN_VALUE, Integer.MAX_VALUE, Long.MIN_VALUE, Long.MIN_VALUE + 5, Long.MAX_VALUE};
    }

    /** Numbers of 0 .. last at which a narrower number would wrap around or change its sign. */
    static int[] widths(int last) {
        int[] numbers = {0, 1, 127, 128, 255, 256, 32_767, 32_768, 65_535, 65_536, 65_537, 131_072,
            500_000, 999_999, 1_000_000};
        return Arrays.stream(numbers).filter(number -> number <= last).toArray();
    }

    static long[] noHours() {
        return outside(1_000_000L);
    }
}
