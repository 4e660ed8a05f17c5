/** Numbers at the ends of the document's ranges, inside and outside. */
final class Numbers {
    /** Just outside 0 .. 99, farther outside, and the ends of the type. */
    static final int[] NO_TIMERS = {
        -1, 100, -2, 101, -100, 127, 128, 256, 1 << 16,
        Integer.MIN_VALUE, Integer.MIN_VALUE + 1, Integer.MAX_VALUE - 1, Integer.MAX_VALUE
    };

    /** Just inside 0 .. 2^46 at both ends, and where a number outgrows 8, 16, 31 and 32 bits. */
    static final long[] TIMES = {
        0, 1, 2, 255, 256, 257, (1L << 16) - 1, 1L << 16, (1L << 31) - 1, 1L << 31, (1L << 32) - 1,
        1L << 32, (1L << 32) + 1, (1L << 44) - 1, 1L << 44, (1L << 44) + 1, 1L << 45,
        (1L << 46) - 2, (1L << 46) - 1, 1L << 46
    };

    /** Just outside 0 .. 2^46, farther outside (some with lower halves inside), and the type's ends. */
    static final long[] NO_TIMES = {
        -1, (1L << 46) + 1, -2, (1L << 46) + 2, -(1L << 46), 1L << 47, -(1L << 32), (1L << 62) + 5,
        Long.MIN_VALUE, Long.MIN_VALUE + 5, Long.MAX_VALUE - 1, Long.MAX_VALUE
    };

    /** Just outside 0 .. 2^44, farther outside (some inside 0 .. 2^46), and the type's ends. */
    static final long[] NO_DISTANCES = {
        -1, (1L << 44) + 1, -2, (1L << 44) + 2, -(1L << 44), 1L << 45, 1L << 46, (1L << 46) + 1,
        -(1L << 32), (1L << 62) + 5, Long.MIN_VALUE, Long.MIN_VALUE + 5, Long.MAX_VALUE - 1,
        Long.MAX_VALUE
    };

    /** PRIORITIES from the greatest to the least: no range is told, so the type's ends are its ends. */
    static final int[] PRIORITIES_DOWN = {
        Integer.MAX_VALUE, Integer.MAX_VALUE - 1, 1 << 30, 256, 2, 1, 0, -1, -2, -256, -(1 << 30),
        Integer.MIN_VALUE + 1, Integer.MIN_VALUE
    };

    private Numbers() {
    }

    /** Just outside 0 .. last, farther outside, and the ends of the type. */
    static int[] beside(int last) {
        return new int[] {
            -1, last + 1, -2, last + 2, -last, 256, 1 << 16,
            Integer.MIN_VALUE, Integer.MIN_VALUE + 1, Integer.MAX_VALUE - 1, Integer.MAX_VALUE
        };
    }
}
