/** Promise 6: go. */
public final class Promise6GoTest {
    public static void main(String[] args) {
        answersHowManyAreDue();
        theClockGoesOnByN();
        goKeepsTheTimers();
        goByNothing();
        goByTheMost();
        goUpToTheEnd();
        numbersOutOfRange();
        beyondTheEnd();
        Check.end("Promise 6, go");
    }

    private static void answersHowManyAreDue() {
        TimerWheels x = new TimerWheels();
        x.set(1, 10, 0);
        x.set(2, 10, 1);
        x.set(3, 300, 0);
        Check.same("go(9)", x.go(9), 0);
        Check.same("go(1)", x.go(1), 2);
        Check.same("go(289)", x.go(289), 2);
        Check.same("go(1)", x.go(1), 3);
        x.take();
        Check.same("go(5) behind a take", x.go(5), 2);
    }

    private static void theClockGoesOnByN() {
        TimerWheels x = new TimerWheels();
        x.go(7);
        Check.same("count(0)", x.count(0), 7);
        x.go(1L << 33);
        Check.same("count(0)", x.count(0), (1L << 33) + 7);
    }

    private static void goKeepsTheTimers() {
        TimerWheels x = new TimerWheels();
        x.set(1, 10, 3);
        x.set(2, 20, 4);
        x.go(15);
        Check.timerIs(x, 1, true, 10, 3, 0);
        Check.timerIs(x, 2, false, 20, 4, 1);
        Check.counts(x, 15, 2, 1);
        Check.same("set(3, 0, 0)", x.set(3, 0, 0), 2);
    }

    private static void goByNothing() {
        TimerWheels x = new TimerWheels();
        x.set(1, 0, 0);
        x.set(2, 1, 0);
        Check.same("go(0)", x.go(0), 1);
        Check.counts(x, 0, 2, 1);
    }

    private static void goByTheMost() {
        TimerWheels x = new TimerWheels();
        x.set(1, Check.LONGEST_GO, 0);
        x.set(2, Check.LONGEST_GO + 1, 0);
        Check.same("go(2^44)", x.go(Check.LONGEST_GO), 1);
        Check.counts(x, Check.LONGEST_GO, 2, 1);
    }

    private static void goUpToTheEnd() {
        TimerWheels x = new TimerWheels();
        x.set(1, Check.LAST_TIME, 0);
        for (int step = 0; step < 3; step++) {
            Check.same("go(2^44)", x.go(Check.LONGEST_GO), 0);
        }
        Check.same("go(2^44 - 1)", x.go(Check.LONGEST_GO - 1), 0);
        Check.same("go(1)", x.go(1), 1);
        Check.counts(x, Check.LAST_TIME, 1, 1);
        Check.same("go(0) at 2^46", x.go(0), 1);
        Check.counts(x, Check.LAST_TIME, 1, 1);
    }

    private static void numbersOutOfRange() {
        Check.Calls run = x -> {
            x.set(1, 10, 0);
            x.set(2, 1L << 45, 0);
            x.go(10);
        };
        long most = Check.LONGEST_GO;
        for (long n : new long[] {-1, -10, most + 1, 4 * most, Long.MIN_VALUE, Long.MAX_VALUE}) {
            Check.refused("go(" + n + ")", run, x -> x.go(n));
        }
    }

    private static void beyondTheEnd() {
        Check.Calls toTheEnd = x -> {
            x.set(1, Check.LAST_TIME, 0);
            Check.goToTheEnd(x);
        };
        Check.refused("go(1) at 2^46", toTheEnd, x -> x.go(1));
        Check.refused("go(2^44) at 2^46", toTheEnd, x -> x.go(Check.LONGEST_GO));
        Check.Calls nearTheEnd = x -> {
            x.set(1, Check.LAST_TIME - 5, 0);
            x.set(2, Check.LAST_TIME, 0);
            x.skip();
        };
        Check.refused("go(6) at 2^46 - 5", nearTheEnd, x -> x.go(6));
        Check.refused("go(2^44) at 2^46 - 5", nearTheEnd, x -> x.go(Check.LONGEST_GO));
        TimerWheels x = new TimerWheels();
        nearTheEnd.on(x);
        Check.same("go(5) at 2^46 - 5", x.go(5), 2);
    }
}
