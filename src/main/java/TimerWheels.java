import java.util.NoSuchElementException;

/**
 * Timers on wheels: set, moved and dropped, due in order of time, priority and age, with a clock
 * that goes to the next one, or as far as it is told, however far that is.
 *
 * <p>With a hundred TIMERS at most, each call looks at all of them: no call depends on how far the
 * CLOCK goes, and there is no second record of what is DUE that could fall out of step.
 */
public final class TimerWheels {
    private static final int TIMERS = 100;
    private static final long LAST_TIME = 1L << 46;
    private static final long LONGEST_GO = 1L << 44;
    private static final int NO_TIMER = -1;
    private static final long NO_TIME = -1L;

    // Row j of each array is TIMER j; the other three mean nothing while there[j] is false.
    private final boolean[] there;
    private final long[] times;
    private final int[] priorities;
    private final int[] ages;

    private long clock;
    private int nextAge;

    public TimerWheels() {
        there = new boolean[TIMERS];
        times = new long[TIMERS];
        priorities = new int[TIMERS];
        ages = new int[TIMERS];
        clock = 0L;
        nextAge = 0;
    }

    public int set(int j, long t, int p) throws IllegalArgumentException {
        requireTimerNumber(j);
        if (t < 0L || t > LAST_TIME) {
            throw new IllegalArgumentException("a TIME is 0 .. 2^46");
        }
        there[j] = true;
        times[j] = t;
        priorities[j] = p;
        ages[j] = nextAge;
        nextAge++;
        return ages[j];
    }

    public long drop(int j) throws IllegalArgumentException, NoSuchElementException {
        requireTimerNumber(j);
        if (!there[j]) {
            throw new NoSuchElementException("there is no such TIMER");
        }
        there[j] = false;
        return times[j];
    }

    public int take() throws NoSuchElementException {
        int first = firstDue();
        if (first == NO_TIMER) {
            throw new NoSuchElementException("no TIMER is DUE");
        }
        there[first] = false;
        return first;
    }

    public long least() {
        long lowest = NO_TIME;
        for (int j = 0; j < TIMERS; j++) {
            if (there[j] && !isDue(j) && (lowest == NO_TIME || times[j] < lowest)) {
                lowest = times[j];
            }
        }
        return lowest;
    }

    public int go(long n) throws IllegalArgumentException {
        if (n < 0L || n > LONGEST_GO) {
            throw new IllegalArgumentException("the CLOCK goes on by 0 .. 2^44");
        }
        if (n > LAST_TIME - clock) {
            throw new IllegalArgumentException("the CLOCK goes at most to 2^46");
        }
        clock += n;
        return countDue();
    }

    public int skip() throws NoSuchElementException {
        long next = least();
        if (next == NO_TIME) {
            throw new NoSuchElementException("there is no TIMER that is not DUE");
        }
        clock = next;
        return countDue();
    }

    public long timer(int j, int what) throws IllegalArgumentException {
        requireTimerNumber(j);
        if (what < 0 || what > 3) {
            throw new IllegalArgumentException("what is 0 .. 3");
        }
        if (!there[j]) {
            return 0L;
        }
        switch (what) {
            case 0:
                return isDue(j) ? 2L : 1L;
            case 1:
                return times[j];
            case 2:
                return priorities[j];
            default:
                return ages[j];
        }
    }

    public long count(int what) throws IllegalArgumentException {
        switch (what) {
            case 0:
                return clock;
            case 1:
                return countThere();
            case 2:
                return countDue();
            default:
                throw new IllegalArgumentException("what is 0 .. 2");
        }
    }

    private static void requireTimerNumber(int j) {
        if (j < 0 || j >= TIMERS) {
            throw new IllegalArgumentException("a TIMER is 0 .. 99");
        }
    }

    private boolean isDue(int j) {
        return there[j] && times[j] <= clock;
    }

    private int firstDue() {
        int first = NO_TIMER;
        for (int j = 0; j < TIMERS; j++) {
            if (isDue(j) && (first == NO_TIMER || comesBefore(j, first))) {
                first = j;
            }
        }
        return first;
    }

    private boolean comesBefore(int a, int b) {
        if (times[a] != times[b]) {
            return times[a] < times[b];
        }
        if (priorities[a] != priorities[b]) {
            return priorities[a] > priorities[b];
        }
        return ages[a] < ages[b];
    }

    private int countThere() {
        int n = 0;
        for (int j = 0; j < TIMERS; j++) {
            if (there[j]) {
                n++;
            }
        }
        return n;
    }

    private int countDue() {
        int n = 0;
        for (int j = 0; j < TIMERS; j++) {
            if (isDue(j)) {
                n++;
            }
        }
        return n;
    }
}
