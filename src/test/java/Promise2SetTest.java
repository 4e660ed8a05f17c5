/** Promise 2: set. */
public final class Promise2SetTest {
    public static void main(String[] args) {
        agesGoUpByOne();
        timerHasWhatItWasSetTo();
        edgesOfTimerAndTime();
        everyPriorityIsTaken();
        setReplacesWhatWasThere();
        setMovesBetweenDueAndNotDue();
        aTimeBehindTheClockIsDueAtOnce();
        setLeavesTheOthersAlone();
        agesAreNotUsedAgain();
        agesGoOnForAllCalls();
        numbersOutOfRange();
        Check.end("Promise 2, set");
    }

    private static void agesGoUpByOne() {
        TimerWheels x = new TimerWheels();
        for (int j = 0; j <= 99; j++) {
            Check.same("set(" + j + ", 10, 0)", x.set(j, 10, 0), j);
        }
        Check.same("set(50, 10, 0) again", x.set(50, 10, 0), 100);
        Check.counts(x, 0, 100, 0);
    }

    private static void timerHasWhatItWasSetTo() {
        TimerWheels x = new TimerWheels();
        x.set(3, 11, 4);
        x.set(7, 1L << 40, -6);
        Check.timerIs(x, 3, false, 11, 4, 0);
        Check.timerIs(x, 7, false, 1L << 40, -6, 1);
        Check.counts(x, 0, 2, 0);
    }

    private static void edgesOfTimerAndTime() {
        TimerWheels x = new TimerWheels();
        Check.same("set(0, 0, 1)", x.set(0, 0, 1), 0);
        Check.same("set(99, 2^46, 2)", x.set(99, Check.LAST_TIME, 2), 1);
        Check.timerIs(x, 0, true, 0, 1, 0);
        Check.timerIs(x, 99, false, Check.LAST_TIME, 2, 1);
    }

    private static void everyPriorityIsTaken() {
        TimerWheels x = new TimerWheels();
        x.set(1, 5, Integer.MIN_VALUE);
        x.set(2, 5, Integer.MAX_VALUE);
        x.set(3, 5, -1);
        Check.timerIs(x, 1, false, 5, Integer.MIN_VALUE, 0);
        Check.timerIs(x, 2, false, 5, Integer.MAX_VALUE, 1);
        Check.timerIs(x, 3, false, 5, -1, 2);
    }

    private static void setReplacesWhatWasThere() {
        TimerWheels x = new TimerWheels();
        x.set(8, 20, 1);
        Check.same("set(8, 30, 2)", x.set(8, 30, 2), 1);
        Check.timerIs(x, 8, false, 30, 2, 1);
        Check.counts(x, 0, 1, 0);
        Check.same("least()", x.least(), 30);
        Check.same("go(20)", x.go(20), 0);
        Check.same("go(10)", x.go(10), 1);
        Check.takes(x, 8);
    }

    private static void setMovesBetweenDueAndNotDue() {
        TimerWheels x = new TimerWheels();
        x.set(8, 20, 1);
        x.go(20);
        Check.counts(x, 20, 1, 1);
        x.set(8, 21, 1);
        Check.counts(x, 20, 1, 0);
        Check.same("least()", x.least(), 21);
        x.set(8, 20, 1);
        Check.counts(x, 20, 1, 1);
        Check.same("least()", x.least(), -1);
    }

    private static void aTimeBehindTheClockIsDueAtOnce() {
        TimerWheels x = new TimerWheels();
        x.go(100);
        x.set(1, 100, 0);
        x.set(2, 99, 0);
        x.set(3, 0, 0);
        x.set(4, 101, 0);
        Check.counts(x, 100, 4, 3);
        Check.timerIs(x, 2, true, 99, 0, 1);
        Check.timerIs(x, 4, false, 101, 0, 3);
        Check.takes(x, 3, 2, 1);
    }

    private static void setLeavesTheOthersAlone() {
        TimerWheels x = new TimerWheels();
        x.set(4, 10, 1);
        x.set(5, 20, 2);
        x.go(3);
        x.set(4, 15, 3);
        Check.timerIs(x, 5, false, 20, 2, 1);
        Check.timerIsNotThere(x, 3);
        Check.same("count(0)", x.count(0), 3);
    }

    private static void agesAreNotUsedAgain() {
        TimerWheels x = new TimerWheels();
        x.set(1, 0, 0);
        x.drop(1);
        Check.same("set(1, 0, 0) behind a drop", x.set(1, 0, 0), 1);
        x.take();
        Check.same("set(1, 0, 0) behind a take", x.set(1, 0, 0), 2);
        Check.timerIs(x, 1, true, 0, 0, 2);
    }

    private static void agesGoOnForAllCalls() {
        TimerWheels x = new TimerWheels();
        for (int call = 0; call < 512; call++) {
            Check.same("set, call " + call, x.set(call % 100, call, 0), call);
        }
    }

    private static void numbersOutOfRange() {
        Check.Calls run = x -> {
            x.set(0, 5, 1);
            x.set(99, 50, 1);
            x.go(5);
        };
        for (int j : new int[] {-1, 100, 101, Integer.MIN_VALUE, Integer.MAX_VALUE}) {
            Check.refused("set(" + j + ", 0, 0)", run, x -> x.set(j, 0, 0));
        }
        long[] times = {-1, Check.LAST_TIME + 1, Long.MIN_VALUE, Long.MAX_VALUE, -Check.LAST_TIME};
        for (long t : times) {
            Check.refused("set(0, " + t + ", 0)", run, x -> x.set(0, t, 0));
            Check.refused("set(1, " + t + ", 0)", run, x -> x.set(1, t, 0));
        }
        Check.refused("set(-1, -1, 0)", run, x -> x.set(-1, -1, 0));
    }
}
