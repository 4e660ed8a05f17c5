/** Promise 1: a new object, "As said": no TIMER is there, the CLOCK is at 0, the first AGE is 0. */
public final class Promise1NewObjectTest {
    private static final String AS_SAID = "`TimerWheels()`: As said.";

    public static void main(String[] args) {
        Check.sentence(AS_SAID, Promise1NewObjectTest::noTimerIsThere);
        Check.sentence(AS_SAID, Promise1NewObjectTest::noneCanBeDropped);
        Check.sentence(AS_SAID, Promise1NewObjectTest::noneIsDueOrWaits);
        Check.sentence(AS_SAID, Promise1NewObjectTest::theClockIsAtZero);
        Check.sentence(AS_SAID, Promise1NewObjectTest::theFirstAgeIsZero);
        Check.sentence(AS_SAID, Promise1NewObjectTest::objectsShareNothing);
        Check.end("Promise 1, a new object");
    }

    private static void noTimerIsThere() {
        TimerWheels x = new TimerWheels();
        Check.counts(x, 0, 0, 0);
        for (int j = 0; j <= 99; j++) {
            Check.timerIsNotThere(x, j);
        }
    }

    private static void noneCanBeDropped() {
        TimerWheels x = new TimerWheels();
        for (int j = 0; j <= 99; j++) {
            int timer = j;
            Check.throwsNoSuchElement("drop(" + j + ")", x, y -> y.drop(timer));
        }
    }

    private static void noneIsDueOrWaits() {
        Check.same("least()", new TimerWheels().least(), -1);
        Check.same("go(0)", new TimerWheels().go(0), 0);
        Check.same("go(2^44)", new TimerWheels().go(Check.LONGEST_GO), 0);
        Check.throwsNoSuchElement("take()", new TimerWheels(), TimerWheels::take);
        Check.throwsNoSuchElement("skip()", new TimerWheels(), TimerWheels::skip);
    }

    private static void theClockIsAtZero() {
        Check.same("count(0)", new TimerWheels().count(0), 0);
        TimerWheels x = new TimerWheels();
        Check.goToTheEnd(x);
        Check.same("count(0) behind four times 2^44", x.count(0), Check.LAST_TIME);
    }

    private static void theFirstAgeIsZero() {
        Check.same("set(99, 7, 7)", new TimerWheels().set(99, 7, 7), 0);
        Check.same("set(0, 0, 0)", new TimerWheels().set(0, 0, 0), 0);
    }

    private static void objectsShareNothing() {
        TimerWheels used = new TimerWheels();
        used.set(0, 3, 1);
        used.set(99, 9, 2);
        used.go(5);
        noTimerIsThere();
        theFirstAgeIsZero();
        Check.counts(used, 5, 2, 1);
        Check.same("set(5, 5, 5)", used.set(5, 5, 5), 2);
    }
}
