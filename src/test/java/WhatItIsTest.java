/** The first sentence of the document, part by part; CallsTest has the second. */
public final class WhatItIsTest {
    private static final String SET_MOVED_DROPPED = "Timers on wheels: set, moved and dropped";
    private static final String IN_ORDER = "due in order of time, priority and age";
    private static final String TO_THE_NEXT = "with a clock that goes to the next one";
    private static final String AS_FAR_AS_TOLD = "or as far as it is told";
    private static final String HOWEVER_FAR = "however far that is.";
    private static final int POWERS = 47;

    public static void main(String[] args) {
        Check.sentence(SET_MOVED_DROPPED, WhatItIsTest::setMovedAndDropped);
        Check.sentence(IN_ORDER, WhatItIsTest::dueInOrder);
        Check.sentence(TO_THE_NEXT, WhatItIsTest::toTheNextOne);
        Check.sentence(AS_FAR_AS_TOLD, WhatItIsTest::asFarAsItIsTold);
        Check.sentence(HOWEVER_FAR, WhatItIsTest::throughEveryPowerOfTwoByGo);
        Check.sentence(HOWEVER_FAR, WhatItIsTest::throughEveryPowerOfTwoBySkip);
        Check.sentence(HOWEVER_FAR, WhatItIsTest::toEveryPowerOfTwoInOneStep);
        Check.end("What it is");
    }

    private static void setMovedAndDropped() {
        TimerWheels x = new TimerWheels();
        Check.same("set(6, 40, 1)", x.set(6, 40, 1), 0);
        Check.timerIs(x, 6, false, 40, 1, 0);
        Check.same("set(6, 30, 2), moved", x.set(6, 30, 2), 1);
        Check.timerIs(x, 6, false, 30, 2, 1);
        Check.counts(x, 0, 1, 0);
        Check.same("drop(6)", x.drop(6), 30);
        Check.timerIsNotThere(x, 6);
        Check.counts(x, 0, 0, 0);
    }

    private static void dueInOrder() {
        TimerWheels x = new TimerWheels();
        x.set(1, 8, 9);
        x.set(2, 7, 1);
        x.set(3, 7, 1);
        x.set(4, 7, 2);
        x.set(5, 6, 0);
        Check.same("go(8)", x.go(8), 5);
        Check.takes(x, 5, 4, 2, 3, 1);
    }

    private static void toTheNextOne() {
        TimerWheels x = new TimerWheels();
        x.set(1, 1000, 0);
        x.set(2, 30, 0);
        Check.same("skip()", x.skip(), 1);
        Check.counts(x, 30, 2, 1);
        Check.same("skip()", x.skip(), 2);
        Check.counts(x, 1000, 2, 2);
    }

    private static void asFarAsItIsTold() {
        TimerWheels x = new TimerWheels();
        x.set(1, 30, 0);
        Check.same("go(29)", x.go(29), 0);
        Check.counts(x, 29, 1, 0);
        Check.same("go(0)", x.go(0), 0);
        Check.counts(x, 29, 1, 0);
        Check.same("go(5)", x.go(5), 1);
        Check.counts(x, 34, 1, 1);
    }

    /** The CLOCK stands one before each power of two, and then at it. */
    private static void throughEveryPowerOfTwoByGo() {
        TimerWheels x = withEveryPowerOfTwo();
        for (int k = 0; k < POWERS; k++) {
            goTo(x, (1L << k) - 1);
            Check.counts(x, (1L << k) - 1, POWERS, k);
            Check.same("go(1) to 2^" + k, x.go(1), k + 1);
            Check.same("timer(" + k + ", 0)", x.timer(k, 0), 2);
        }
        Check.same("take()", x.take(), 0);
    }

    private static void throughEveryPowerOfTwoBySkip() {
        TimerWheels x = withEveryPowerOfTwo();
        for (int k = 0; k < POWERS; k++) {
            Check.same("least()", x.least(), 1L << k);
            Check.same("skip() to 2^" + k, x.skip(), 1);
            Check.counts(x, 1L << k, POWERS - k, 1);
            Check.same("take() at 2^" + k, x.take(), k);
        }
        Check.throwsNoSuchElement("skip() behind the last", x, TimerWheels::skip);
    }

    private static void toEveryPowerOfTwoInOneStep() {
        for (int k = 0; k < POWERS; k++) {
            TimerWheels skipped = new TimerWheels();
            skipped.set(9, 1L << k, 0);
            Check.same("skip() to 2^" + k, skipped.skip(), 1);
            Check.counts(skipped, 1L << k, 1, 1);
        }
        for (int k = 0; 1L << k <= Check.LONGEST_GO; k++) {
            TimerWheels gone = new TimerWheels();
            gone.set(9, 1L << k, 0);
            Check.same("go(2^" + k + ")", gone.go(1L << k), 1);
            Check.counts(gone, 1L << k, 1, 1);
        }
    }

    /** TIMER k at TIME 2^k, the farthest one set first. */
    private static TimerWheels withEveryPowerOfTwo() {
        TimerWheels x = new TimerWheels();
        for (int k = POWERS - 1; k >= 0; k--) {
            x.set(k, 1L << k, 0);
        }
        return x;
    }

    private static void goTo(TimerWheels x, long time) {
        long left = time - x.count(0);
        while (left > 0) {
            long step = Math.min(left, Check.LONGEST_GO);
            x.go(step);
            left -= step;
        }
    }
}
