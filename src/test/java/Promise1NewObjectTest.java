/** Promise 1: at first there is no TIMER, the CLOCK is at 0 and the next AGE is 0. */
public final class Promise1NewObjectTest {
    public static void main(String[] args) {
        noTimerIsThere();
        theFirstAgeIsZero();
        objectsShareNothing();
        Check.end("Promise 1, a new object");
    }

    private static void noTimerIsThere() {
        TimerWheels x = new TimerWheels();
        Check.counts(x, 0, 0, 0);
        Check.same("least()", x.least(), -1);
        for (int j = 0; j <= 99; j++) {
            Check.timerIsNotThere(x, j);
        }
        Check.takes(x);
    }

    private static void theFirstAgeIsZero() {
        Check.same("set(99, 7, 7)", new TimerWheels().set(99, 7, 7), 0);
    }

    private static void objectsShareNothing() {
        TimerWheels used = new TimerWheels();
        used.set(0, 3, 1);
        used.set(99, 9, 2);
        used.go(5);
        noTimerIsThere();
        theFirstAgeIsZero();
        Check.counts(used, 5, 2, 1);
        Check.same("set(5, 5, 5)", used.set(5, 5, 5), 2);
    }
}
