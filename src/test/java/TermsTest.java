/** The sentences of "Terms" about TIMERS, TIME, PRIORITY, AGE, CLOCK and DUE. */
public final class TermsTest {
    private static final String TIMERS = "TIMERS 0 .. 99 are there or not (at first).";
    private static final String TIME = "A TIMER has a TIME, 0 .. 2^46";
    private static final String PRIORITY = "A TIMER has [...] a PRIORITY";
    private static final String AGE = "an AGE: a number from 0, one more for each one that is set.";
    private static final String CLOCK = "The CLOCK is at 0 at first.";
    private static final String DUE = "A TIMER is DUE if its TIME is not behind the CLOCK.";

    public static void main(String[] args) {
        Check.sentence(TIMERS, TermsTest::noneIsThereAtFirst);
        Check.sentence(TIMERS, TermsTest::eachCanBeThereAlone);
        Check.sentence(TIMERS, TermsTest::allHundredCanBeThere);
        Check.sentence(TIME, TermsTest::everyTimeInsideIsKept);
        Check.sentence(PRIORITY, TermsTest::everyPriorityIsKept);
        Check.sentence(AGE, TermsTest::agesGoUpFromZero);
        Check.sentence(AGE, TermsTest::agesGoUpForOneSetAgain);
        Check.sentence(AGE, TermsTest::onlySetTakesAnAge);
        Check.sentence(CLOCK, TermsTest::theClockIsAtZeroAtFirst);
        Check.sentence(DUE, TermsTest::dueWhenSetAtAClock);
        Check.sentence(DUE, TermsTest::dueWhenTheClockGoesThere);
        Check.sentence(DUE, TermsTest::dueWhenTheClockSkipsThere);
        Check.sentence(DUE, TermsTest::onceDueStaysDue);
        Check.end("Terms");
    }

    private static void noneIsThereAtFirst() {
        TimerWheels x = new TimerWheels();
        Check.counts(x, 0, 0, 0);
        for (int j = 0; j <= 99; j++) {
            Check.timerIsNotThere(x, j);
        }
    }

    private static void eachCanBeThereAlone() {
        for (int j = 0; j <= 99; j++) {
            TimerWheels x = new TimerWheels();
            x.set(j, 10, 20);
            for (int other = 0; other <= 99; other++) {
                Check.same("timer(" + other + ", 0) with " + j, x.timer(other, 0), other == j ? 1 : 0);
            }
            Check.timerIs(x, j, false, 10, 20, 0);
            Check.same("count(1)", x.count(1), 1);
            Check.same("drop(" + j + ")", x.drop(j), 10);
            Check.same("count(1) behind the drop", x.count(1), 0);
        }
    }

    private static void allHundredCanBeThere() {
        TimerWheels x = new TimerWheels();
        for (int j = 0; j <= 99; j++) {
            x.set(j, 1000 - j, -j);
        }
        Check.counts(x, 0, 100, 0);
        for (int j = 0; j <= 99; j++) {
            Check.timerIs(x, j, false, 1000 - j, -j, j);
        }
    }

    private static void everyTimeInsideIsKept() {
        for (long t : Numbers.TIMES) {
            TimerWheels x = new TimerWheels();
            x.set(5, t, 3);
            Check.timerIs(x, 5, t == 0, t, 3, 0);
            Check.same("drop(5) of TIME " + t, x.drop(5), t);
        }
    }

    private static void everyPriorityIsKept() {
        for (int p : Numbers.PRIORITIES_DOWN) {
            TimerWheels x = new TimerWheels();
            x.set(5, 9, p);
            Check.timerIs(x, 5, false, 9, p, 0);
        }
    }

    private static void agesGoUpFromZero() {
        TimerWheels x = new TimerWheels();
        for (int j = 0; j <= 99; j++) {
            Check.same("set of " + (99 - j), x.set(99 - j, j, 0), j);
            Check.same("its AGE", x.timer(99 - j, 3), j);
        }
    }

    private static void agesGoUpForOneSetAgain() {
        TimerWheels x = new TimerWheels();
        for (int age = 0; age < 256; age++) {
            Check.same("set(4, 7, 7)", x.set(4, 7, 7), age);
            Check.same("timer(4, 3)", x.timer(4, 3), age);
        }
    }

    private static void onlySetTakesAnAge() {
        TimerWheels x = new TimerWheels();
        Check.same("the first set", x.set(1, 0, 0), 0);
        x.drop(1);
        Check.same("set behind a drop", x.set(1, 0, 0), 1);
        x.take();
        Check.same("set behind a take", x.set(2, 9, 0), 2);
        x.skip();
        x.go(1);
        x.least();
        x.timer(2, 3);
        x.count(1);
        Check.same("set behind the other calls", x.set(2, 9, 0), 3);
        Check.thrownBy(x, y -> y.set(2, -1, 0));
        Check.thrownBy(x, y -> y.set(100, 0, 0));
        Check.same("set behind two that were refused", x.set(2, 9, 0), 4);
    }

    private static void theClockIsAtZeroAtFirst() {
        TimerWheels x = new TimerWheels();
        Check.same("count(0)", x.count(0), 0);
        x.set(1, 0, 0);
        x.set(2, 1, 0);
        Check.timerIs(x, 1, true, 0, 0, 0);
        Check.timerIs(x, 2, false, 1, 0, 1);
        Check.same("count(0)", x.count(0), 0);
    }

    private static void dueWhenSetAtAClock() {
        for (long clock : Numbers.TIMES) {
            TimerWheels x = Check.made(y -> Check.skipTo(y, clock));
            Check.counts(x, clock, 0, 0);
            setRoundTheClock(x, clock);
            lookRoundTheClock(x, clock);
        }
    }

    private static void dueWhenTheClockGoesThere() {
        for (long clock : Numbers.TIMES) {
            TimerWheels x = new TimerWheels();
            setRoundTheClock(x, clock);
            for (long left = clock; left > 0; left -= Math.min(left, Check.LONGEST_GO)) {
                x.go(Math.min(left, Check.LONGEST_GO));
            }
            lookRoundTheClock(x, clock);
        }
    }

    private static void dueWhenTheClockSkipsThere() {
        for (long clock : Numbers.TIMES) {
            TimerWheels x = new TimerWheels();
            setRoundTheClock(x, clock);
            for (int step = 0; step < 2 && x.count(0) < clock; step++) {
                x.skip();
            }
            lookRoundTheClock(x, clock);
        }
    }

    private static void onceDueStaysDue() {
        TimerWheels x = new TimerWheels();
        x.set(6, 0, 0);
        x.set(7, 1, 0);
        x.go(1);
        for (int step = 0; step < 46; step++) {
            Check.same("go(" + (1L << step) / 4 + ")", x.go((1L << step) / 4), 2);
            Check.same("timer(6, 0)", x.timer(6, 0), 2);
            Check.same("timer(7, 0)", x.timer(7, 0), 2);
        }
    }

    /** One just behind the CLOCK, one at it, one just before it, as far as there are such TIMES. */
    private static void setRoundTheClock(TimerWheels x, long clock) {
        if (clock > 0) {
            x.set(1, clock - 1, 0);
        }
        x.set(2, clock, 0);
        if (clock < Check.LAST_TIME) {
            x.set(3, clock + 1, 0);
        }
    }

    private static void lookRoundTheClock(TimerWheels x, long clock) {
        boolean one = clock > 0;
        boolean three = clock < Check.LAST_TIME;
        Check.counts(x, clock, (one ? 1 : 0) + 1 + (three ? 1 : 0), (one ? 1 : 0) + 1);
        Check.same("timer(1, 0) at " + clock, x.timer(1, 0), one ? 2 : 0);
        Check.same("timer(2, 0) at " + clock, x.timer(2, 0), 2);
        Check.same("timer(3, 0) at " + clock, x.timer(3, 0), three ? 1 : 0);
        Check.same("least() at " + clock, x.least(), three ? clock + 1 : -1);
        Check.takes(x, one ? new int[] {1, 2} : new int[] {2});
    }
}
