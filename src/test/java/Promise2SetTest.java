/** Promise 2: set. */
public final class Promise2SetTest {
    private static final String NUMBER = "j 0 .. 99 (so for all).";
    private static final String TIME = "A TIMER has a TIME, 0 .. 2^46";
    private static final String IS_THERE = "TIMER j is there, with TIME t and PRIORITY p and a new AGE";
    private static final String IN_PLACE = "in place of what it was.";
    private static final String ANSWER = "Answers its AGE.";
    private static final long LAST = Check.LAST_TIME;

    public static void main(String[] args) {
        Check.sentence(NUMBER, Promise2SetTest::numbersInside);
        Check.sentence(NUMBER, Promise2SetTest::numbersOutside);
        Check.sentence(TIME, Promise2SetTest::timesInside);
        Check.sentence(TIME, Promise2SetTest::timesOutside);
        Check.sentence(TIME, Promise2SetTest::timesOutsideForOneThatIsThere);
        Check.sentence(IS_THERE, Promise2SetTest::isThereWithWhatItWasSetTo);
        Check.sentence(IS_THERE, Promise2SetTest::isThereWithTheEndsOfPriority);
        Check.sentence(IS_THERE, Promise2SetTest::isThereAgainBehindDropAndTake);
        Check.sentence(IS_THERE, Promise2SetTest::othersStayAsTheyAre);
        Check.sentence(IS_THERE, Promise2SetTest::theClockStays);
        Check.sentence(IN_PLACE, Promise2SetTest::theOldTimeIsForgotten);
        Check.sentence(IN_PLACE, Promise2SetTest::fromEveryTimeToEveryOther);
        Check.sentence(IN_PLACE, Promise2SetTest::theOldPriorityAndAgeAreForgotten);
        Check.sentence(IN_PLACE, Promise2SetTest::theSameAgainIsYounger);
        Check.sentence(IN_PLACE, Promise2SetTest::dueAndNotDueAndBack);
        Check.sentence(IN_PLACE, Promise2SetTest::withAllHundredThere);
        Check.sentence(IN_PLACE, Promise2SetTest::oneSetFiveHundredTimes);
        Check.sentence(ANSWER, Promise2SetTest::answersWhatTimerTells);
        Check.end("Promise 2, set");
    }

    private static void numbersInside() {
        for (int j : new int[] {0, 1, 98, 99}) {
            TimerWheels x = new TimerWheels();
            Check.same("set(" + j + ", 4, 5)", x.set(j, 4, 5), 0);
            Check.timerIs(x, j, false, 4, 5, 0);
        }
    }

    private static void numbersOutside() {
        for (int j : Numbers.NO_TIMERS) {
            Check.refused("set(" + j + ", 0, 0)", x -> x.set(j, 0, 0));
            Check.refused("set(" + j + ", 2^46, 1)", x -> x.set(j, LAST, 1));
        }
    }

    private static void timesInside() {
        for (long t : new long[] {0, 1, LAST - 1, LAST}) {
            TimerWheels x = new TimerWheels();
            Check.same("set(9, " + t + ", 5)", x.set(9, t, 5), 0);
            Check.timerIs(x, 9, t == 0, t, 5, 0);
        }
    }

    private static void timesOutside() {
        for (long t : Numbers.NO_TIMES) {
            Check.refused("set(0, " + t + ", 0)", x -> x.set(0, t, 0));
            Check.refused("set(99, " + t + ", 0)", x -> x.set(99, t, 0));
        }
    }

    private static void timesOutsideForOneThatIsThere() {
        for (long t : Numbers.NO_TIMES) {
            Check.refused("set(50, " + t + ", 0)", State.ONE_WAITING, x -> x.set(50, t, 0));
            Check.refused("set(50, " + t + ", 0)", State.ONE_DUE, x -> x.set(50, t, 0));
        }
    }

    private static void isThereWithWhatItWasSetTo() {
        TimerWheels x = new TimerWheels();
        x.set(3, 11, 4);
        x.set(7, 1L << 40, -6);
        Check.timerIs(x, 3, false, 11, 4, 0);
        Check.timerIs(x, 7, false, 1L << 40, -6, 1);
        Check.counts(x, 0, 2, 0);
    }

    private static void isThereWithTheEndsOfPriority() {
        TimerWheels x = new TimerWheels();
        x.set(1, 5, Integer.MIN_VALUE);
        x.set(2, 5, Integer.MAX_VALUE);
        Check.timerIs(x, 1, false, 5, Integer.MIN_VALUE, 0);
        Check.timerIs(x, 2, false, 5, Integer.MAX_VALUE, 1);
    }

    private static void isThereAgainBehindDropAndTake() {
        TimerWheels x = new TimerWheels();
        x.set(1, 0, 8);
        x.drop(1);
        Check.same("set(1, 0, 0) behind a drop", x.set(1, 0, 0), 1);
        Check.timerIs(x, 1, true, 0, 0, 1);
        x.take();
        Check.same("set(1, 6, 2) behind a take", x.set(1, 6, 2), 2);
        Check.timerIs(x, 1, false, 6, 2, 2);
        Check.counts(x, 0, 1, 0);
    }

    private static void othersStayAsTheyAre() {
        TimerWheels x = new TimerWheels();
        x.set(4, 10, 1);
        x.set(5, 20, 2);
        x.set(6, 2, 3);
        x.go(3);
        x.set(4, 15, 3);
        x.set(7, 0, 0);
        Check.timerIs(x, 5, false, 20, 2, 1);
        Check.timerIs(x, 6, true, 2, 3, 2);
        Check.timerIsNotThere(x, 3);
        Check.counts(x, 3, 4, 2);
    }

    private static void theClockStays() {
        for (State state : State.values()) {
            TimerWheels x = Check.made(state);
            long clock = x.count(0);
            x.set(0, 0, 0);
            Check.same("count(0) behind TIME 0", x.count(0), clock);
            x.set(99, LAST, 0);
            Check.same("count(0) behind TIME 2^46", x.count(0), clock);
        }
    }

    private static void theOldTimeIsForgotten() {
        TimerWheels x = new TimerWheels();
        x.set(8, 20, 1);
        x.set(8, 30, 2);
        Check.counts(x, 0, 1, 0);
        Check.same("least()", x.least(), 30);
        Check.same("go(20)", x.go(20), 0);
        Check.takes(x);
        Check.same("go(10)", x.go(10), 1);
        Check.takes(x, 8);
        Check.same("go(100)", x.go(100), 0);
    }

    private static void fromEveryTimeToEveryOther() {
        for (long before : Numbers.TIMES) {
            for (long after : Numbers.TIMES) {
                TimerWheels x = new TimerWheels();
                x.set(8, before, 0);
                x.set(8, after, 0);
                Check.timerIs(x, 8, after == 0, after, 0, 1);
                Check.same("least()", x.least(), after == 0 ? -1 : after);
                if (after > 0) {
                    Check.same("skip()", x.skip(), 1);
                }
                Check.counts(x, after, 1, 1);
                Check.throwsNoSuchElement("skip() again", x, TimerWheels::skip);
                Check.takes(x, 8);
                Check.counts(x, after, 0, 0);
            }
        }
    }

    private static void theOldPriorityAndAgeAreForgotten() {
        TimerWheels x = new TimerWheels();
        x.set(1, 5, 9);
        x.set(2, 5, 4);
        x.set(3, 5, 4);
        x.set(1, 5, 4);
        x.set(2, 5, 3);
        x.go(5);
        Check.timerIs(x, 1, true, 5, 4, 3);
        Check.takes(x, 3, 1, 2);
    }

    private static void theSameAgainIsYounger() {
        TimerWheels x = new TimerWheels();
        x.set(1, 5, 4);
        x.set(2, 5, 4);
        Check.same("set(1, 5, 4) again", x.set(1, 5, 4), 2);
        Check.counts(x, 0, 2, 0);
        x.go(5);
        Check.takes(x, 2, 1);
    }

    private static void dueAndNotDueAndBack() {
        TimerWheels x = new TimerWheels();
        x.set(8, 20, 1);
        x.go(20);
        Check.counts(x, 20, 1, 1);
        x.set(8, 21, 1);
        Check.counts(x, 20, 1, 0);
        Check.same("least()", x.least(), 21);
        Check.takes(x);
        x.set(8, 20, 1);
        Check.counts(x, 20, 1, 1);
        Check.same("least()", x.least(), -1);
        Check.takes(x, 8);
    }

    private static void withAllHundredThere() {
        for (int j : new int[] {0, 50, 99}) {
            TimerWheels x = Check.made(State.ALL_WAITING);
            Check.same("set(" + j + ", 0, 5)", x.set(j, 0, 5), 100);
            Check.counts(x, 0, 100, 1);
            Check.timerIs(x, j, true, 0, 5, 100);
            Check.takes(x, j);
            Check.counts(x, 0, 99, 0);
        }
    }

    private static void oneSetFiveHundredTimes() {
        TimerWheels x = new TimerWheels();
        for (int k = 0; k < 500; k++) {
            x.set(8, k % 2 == 0 ? k : LAST - k, k);
        }
        Check.counts(x, 0, 1, 0);
        Check.same("least()", x.least(), LAST - 499);
        Check.same("skip()", x.skip(), 1);
        Check.takes(x, 8);
    }

    private static void answersWhatTimerTells() {
        for (State state : State.values()) {
            TimerWheels x = Check.made(state);
            for (int j : new int[] {0, 50, 99, 50}) {
                int age = x.set(j, 12, 1);
                Check.same("timer(" + j + ", 3)", x.timer(j, 3), age);
            }
        }
    }
}
