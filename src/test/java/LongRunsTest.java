import java.util.Comparator;
import java.util.NoSuchElementException;
import java.util.TreeSet;

/**
 * Runs of 512 calls, right and wrong ones mixed, against a second program that holds the TIMERS in
 * another way: in two sorted sets, the waiting and the DUE ones.
 */
public final class LongRunsTest {
    private static final int RUNS = 1500;
    private static final int CALLS = 512;

    public static void main(String[] args) {
        Check.sentence("promises 1 to 9 together", LongRunsTest::compareAllRuns);
        Check.end("Long runs");
    }

    private static void compareAllRuns() {
        for (int run = 0; run < RUNS; run++) {
            new Run(run).compare();
        }
    }

    private record Timer(int j, long time, int priority, int age) {
        static final Comparator<Timer> ORDER = Comparator.comparingLong(Timer::time)
                .thenComparing(Timer::priority, Comparator.reverseOrder())
                .thenComparingInt(Timer::age);
    }

    private interface Call {
        long answer();
    }

    /** What the document asks, told by sorted sets. */
    private static final class Model {
        private final Timer[] timers = new Timer[100];
        private final TreeSet<Timer> waiting = new TreeSet<>(Timer.ORDER);
        private final TreeSet<Timer> due = new TreeSet<>(Timer.ORDER);
        private long clock = 0;
        private int age = 0;

        long set(int j, long t, int p) {
            require(j >= 0 && j <= 99 && t >= 0 && t <= Check.LAST_TIME);
            remove(timers[j]);
            timers[j] = new Timer(j, t, p, age);
            (t > clock ? waiting : due).add(timers[j]);
            return age++;
        }

        long drop(int j) {
            require(j >= 0 && j <= 99);
            return remove(found(timers[j])).time();
        }

        long take() {
            return remove(found(due.isEmpty() ? null : due.first())).j();
        }

        long least() {
            return waiting.isEmpty() ? -1 : waiting.first().time();
        }

        long go(long n) {
            require(n >= 0 && n <= Check.LONGEST_GO && clock + n <= Check.LAST_TIME);
            return goTo(clock + n);
        }

        long skip() {
            return goTo(found(waiting.isEmpty() ? null : waiting.first()).time());
        }

        long timer(int j, int what) {
            require(j >= 0 && j <= 99 && what >= 0 && what <= 3);
            Timer timer = timers[j];
            if (timer == null) {
                return 0;
            }
            long state = due.contains(timer) ? 2 : 1;
            return new long[] {state, timer.time(), timer.priority(), timer.age()}[what];
        }

        long count(int what) {
            require(what >= 0 && what <= 2);
            return new long[] {clock, waiting.size() + due.size(), due.size()}[what];
        }

        private long goTo(long time) {
            clock = time;
            while (!waiting.isEmpty() && waiting.first().time() <= clock) {
                due.add(waiting.pollFirst());
            }
            return due.size();
        }

        private Timer remove(Timer timer) {
            if (timer != null) {
                waiting.remove(timer);
                due.remove(timer);
                timers[timer.j()] = null;
            }
            return timer;
        }

        private static Timer found(Timer timer) {
            if (timer == null) {
                throw new NoSuchElementException();
            }
            return timer;
        }

        private static void require(boolean inRange) {
            if (!inRange) {
                throw new IllegalArgumentException();
            }
        }
    }

    /** One run: its number alone decides the calls, so that a wrong answer can be seen again. */
    private static final class Run {
        private static final int[] PRIORITIES =
                {0, 0, 1, 1, 2, -1, Integer.MIN_VALUE, Integer.MAX_VALUE};
        private static final long[] SPANS = {4, 30, 700, 1L << 20, 1L << 33, 1L << 43};

        private final int number;
        private final int timers;
        private final long span;
        private final TimerWheels x = new TimerWheels();
        private final Model model = new Model();
        private long seed;

        Run(int number) {
            this.number = number;
            this.seed = number * 0x9E3779B97F4A7C15L + 1;
            this.timers = number % 3 == 0 ? 100 : 2 + below(20);
            this.span = SPANS[number % SPANS.length];
        }

        void compare() {
            for (int call = 0; call < CALLS; call++) {
                String at = "run " + number + ", call " + call + ": ";
                switch (below(16)) {
                    case 0, 1, 2, 3, 4 -> compareSet(at, timer(), time(), priority());
                    case 5 -> compareDrop(at, timer());
                    case 6, 7 -> same(at + "take()", x::take, model::take);
                    case 8 -> same(at + "least()", x::least, model::least);
                    case 9, 10 -> compareGo(at, distance());
                    case 11 -> same(at + "skip()", x::skip, model::skip);
                    case 12, 13, 14 -> compareTimer(at, timer(), nearly(4));
                    default -> compareCount(at, nearly(3));
                }
            }
        }

        private void compareSet(String at, int j, long t, int p) {
            String call = "set(" + j + ", " + t + ", " + p + ")";
            same(at + call, () -> x.set(j, t, p), () -> model.set(j, t, p));
        }

        private void compareDrop(String at, int j) {
            same(at + "drop(" + j + ")", () -> x.drop(j), () -> model.drop(j));
        }

        private void compareGo(String at, long n) {
            same(at + "go(" + n + ")", () -> x.go(n), () -> model.go(n));
        }

        private void compareTimer(String at, int j, int what) {
            String call = "timer(" + j + ", " + what + ")";
            same(at + call, () -> x.timer(j, what), () -> model.timer(j, what));
        }

        private void compareCount(String at, int what) {
            same(at + "count(" + what + ")", () -> x.count(what), () -> model.count(what));
        }

        private static void same(String what, Call got, Call want) {
            Check.same(what, told(got), told(want));
        }

        private static String told(Call call) {
            try {
                return Long.toString(call.answer());
            } catch (RuntimeException e) {
                return "throws." + e.getClass().getSimpleName();
            }
        }

        private int timer() {
            return below(40) == 0 ? (below(2) == 0 ? -1 : 100) : below(timers);
        }

        private long time() {
            switch (below(40)) {
                case 0:
                    return -1;
                case 1:
                    return Check.LAST_TIME + 1;
                case 2:
                    return Check.LAST_TIME;
                case 3:
                    return 0;
                default:
                    return Math.min(Check.LAST_TIME, Math.max(0, model.clock - span / 4 + upTo(span)));
            }
        }

        private int priority() {
            return PRIORITIES[below(PRIORITIES.length)];
        }

        private long distance() {
            switch (below(40)) {
                case 0:
                    return -1;
                case 1:
                    return Check.LONGEST_GO + 1;
                case 2:
                    return number % 2 == 0 ? Check.LONGEST_GO : 0;
                case 3:
                    return Math.min(Check.LAST_TIME - model.clock, Check.LONGEST_GO) + below(2);
                default:
                    return upTo(span / 3);
            }
        }

        /** 0 .. n - 1, and now and then one beside. */
        private int nearly(int n) {
            return below(30) == 0 ? (below(2) == 0 ? -1 : n) : below(n);
        }

        private int below(int n) {
            return (int) upTo(n - 1L);
        }

        private long upTo(long n) {
            seed = seed * 6364136223846793005L + 1442695040888963407L;
            return (seed >>> 17) % (n + 1);
        }
    }
}
