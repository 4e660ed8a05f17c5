/** Promise 7: skip. */
public final class Promise7SkipTest {
    public static void main(String[] args) {
        goesToTheNextTime();
        countsThoseDueBefore();
        skipKeepsTheTimers();
        goesFartherThanGoMay();
        thereIsNone();
        Check.end("Promise 7, skip");
    }

    private static void goesToTheNextTime() {
        TimerWheels x = new TimerWheels();
        x.set(1, 500, 0);
        x.set(2, 20, 0);
        x.set(3, 20, 5);
        Check.same("skip()", x.skip(), 2);
        Check.counts(x, 20, 3, 2);
        Check.takes(x, 3, 2);
        Check.same("skip()", x.skip(), 1);
        Check.counts(x, 500, 1, 1);
        Check.takes(x, 1);
    }

    private static void countsThoseDueBefore() {
        TimerWheels x = new TimerWheels();
        x.set(1, 0, 0);
        x.set(2, 20, 0);
        x.set(3, 21, 0);
        Check.same("skip()", x.skip(), 2);
        Check.same("skip()", x.skip(), 3);
        Check.same("count(0)", x.count(0), 21);
    }

    private static void skipKeepsTheTimers() {
        TimerWheels x = new TimerWheels();
        x.set(1, 10, 3);
        x.set(2, 20, 4);
        x.skip();
        Check.timerIs(x, 1, true, 10, 3, 0);
        Check.timerIs(x, 2, false, 20, 4, 1);
        Check.same("set(3, 0, 0)", x.set(3, 0, 0), 2);
    }

    private static void goesFartherThanGoMay() {
        TimerWheels x = new TimerWheels();
        x.set(0, Check.LAST_TIME, 0);
        Check.same("skip() from 0 to 2^46", x.skip(), 1);
        Check.counts(x, Check.LAST_TIME, 1, 1);
    }

    private static void thereIsNone() {
        Check.findsNone("skip() on a new object", x -> { }, TimerWheels::skip);
        Check.findsNone("skip() with one DUE alone", x -> x.set(1, 0, 0), TimerWheels::skip);
        Check.Calls toTheEnd = x -> {
            x.set(0, Check.LAST_TIME, 0);
            x.skip();
        };
        Check.findsNone("skip() at 2^46", toTheEnd, TimerWheels::skip);
        Check.Calls dropped = x -> {
            x.set(1, 5, 0);
            x.set(2, 9, 0);
            x.skip();
            x.drop(2);
        };
        Check.findsNone("skip() behind a drop", dropped, TimerWheels::skip);
    }
}
