/** Promise 4: take, and the ORDER it keeps. */
public final class Promise4TakeTest {
    public static void main(String[] args) {
        theLeastTimeComesFirst();
        thenTheGreatestPriority();
        thenTheLeastAge();
        timeGoesBeforePriorityAndAge();
        prioritiesFarApart();
        aTimerSetAgainIsYoung();
        onlyDueOnesAreTaken();
        aTakenTimerIsGone();
        edges();
        thereIsNone();
        Check.end("Promise 4, take");
    }

    private static void theLeastTimeComesFirst() {
        TimerWheels x = new TimerWheels();
        x.set(1, 30, 0);
        x.set(2, 10, 0);
        x.set(3, 20, 0);
        x.go(30);
        Check.takes(x, 2, 3, 1);
    }

    private static void thenTheGreatestPriority() {
        TimerWheels x = new TimerWheels();
        x.set(1, 10, -1);
        x.set(2, 10, 5);
        x.set(3, 10, 0);
        x.set(4, 10, 6);
        x.go(10);
        Check.takes(x, 4, 2, 3, 1);
    }

    private static void thenTheLeastAge() {
        TimerWheels x = new TimerWheels();
        x.set(9, 10, 2);
        x.set(1, 10, 2);
        x.set(5, 10, 2);
        x.go(10);
        Check.takes(x, 9, 1, 5);
    }

    private static void timeGoesBeforePriorityAndAge() {
        TimerWheels x = new TimerWheels();
        x.set(1, 11, 9);
        x.set(2, 11, 1);
        x.set(3, 10, 1);
        x.set(4, 10, 2);
        x.set(5, 0, -9);
        x.go(1000);
        Check.takes(x, 5, 4, 3, 1, 2);
    }

    private static void prioritiesFarApart() {
        TimerWheels x = new TimerWheels();
        x.set(1, 10, Integer.MIN_VALUE);
        x.set(2, 10, 1);
        x.set(3, 10, Integer.MAX_VALUE);
        x.set(4, 10, -1);
        x.go(10);
        Check.takes(x, 3, 2, 4, 1);
    }

    private static void aTimerSetAgainIsYoung() {
        TimerWheels x = new TimerWheels();
        x.set(1, 10, 2);
        x.set(2, 10, 2);
        x.set(1, 10, 2);
        x.go(10);
        Check.takes(x, 2, 1);
    }

    private static void onlyDueOnesAreTaken() {
        TimerWheels x = new TimerWheels();
        x.set(1, 10, 0);
        x.set(2, 11, 9);
        x.go(9);
        Check.takes(x);
        x.go(1);
        Check.takes(x, 1);
        x.go(1);
        Check.takes(x, 2);
    }

    private static void aTakenTimerIsGone() {
        TimerWheels x = new TimerWheels();
        x.set(1, 0, 7);
        x.set(2, 0, 6);
        x.set(3, 4, 5);
        Check.same("take()", x.take(), 1);
        Check.timerIsNotThere(x, 1);
        Check.timerIs(x, 2, true, 0, 6, 1);
        Check.timerIs(x, 3, false, 4, 5, 2);
        Check.counts(x, 0, 2, 1);
    }

    private static void edges() {
        TimerWheels x = new TimerWheels();
        x.set(99, 0, 0);
        x.set(0, Check.LAST_TIME, 0);
        x.set(50, Check.LAST_TIME - 1, 0);
        Check.takes(x, 99);
        Check.goToTheEnd(x);
        Check.takes(x, 50, 0);
        for (int j = 99; j >= 0; j--) {
            x.set(j, Check.LAST_TIME, 0);
        }
        for (int j = 99; j >= 0; j--) {
            Check.same("take() of a hundred", x.take(), j);
        }
        Check.takes(x);
    }

    private static void thereIsNone() {
        Check.findsNone("take() on a new object", x -> { }, TimerWheels::take);
        Check.findsNone("take() with none DUE", x -> x.set(3, 1, 0), TimerWheels::take);
        Check.findsNone("take() at 2^46", Check::goToTheEnd, TimerWheels::take);
    }
}
