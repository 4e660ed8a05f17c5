/** Promise 4: take; OrderTest has the ORDER itself. */
public final class Promise4TakeTest {
    private static final String GOES = "The first DUE one in ORDER goes";
    private static final String NONE = "there is none: NoSuchElementException.";
    private static final String ANSWER = "Answers which.";
    private static final long LAST = Check.LAST_TIME;

    public static void main(String[] args) {
        Check.sentence(GOES, Promise4TakeTest::timePriorityAndAgeTogether);
        Check.sentence(GOES, Promise4TakeTest::onlyDueOnesGo);
        Check.sentence(GOES, Promise4TakeTest::onlyThatOneGoes);
        Check.sentence(GOES, Promise4TakeTest::oneSetBetweenTwoTakes);
        Check.sentence(GOES, Promise4TakeTest::atBothEndsOfTime);
        Check.sentence(GOES, Promise4TakeTest::theClockStays);
        Check.sentence(NONE, Promise4TakeTest::noneIsThere);
        Check.sentence(NONE, Promise4TakeTest::noneIsDue);
        Check.sentence(NONE, Promise4TakeTest::allThatWereDueAreTaken);
        Check.sentence(ANSWER, Promise4TakeTest::eachNumberAlone);
        Check.sentence(ANSWER, Promise4TakeTest::allHundred);
        Check.end("Promise 4, take");
    }

    private static void timePriorityAndAgeTogether() {
        TimerWheels x = new TimerWheels();
        x.set(1, 11, 9);
        x.set(2, 11, 1);
        x.set(3, 10, 1);
        x.set(4, 10, 2);
        x.set(5, 0, -9);
        x.set(0, 10, 2);
        x.go(1000);
        Check.takes(x, 5, 4, 0, 3, 1, 2);
    }

    private static void onlyDueOnesGo() {
        TimerWheels x = new TimerWheels();
        x.set(1, 10, 0);
        x.set(2, 11, 9);
        x.go(9);
        Check.takes(x);
        x.go(1);
        Check.takes(x, 1);
        x.go(1);
        Check.takes(x, 2);
    }

    private static void onlyThatOneGoes() {
        TimerWheels x = new TimerWheels();
        x.set(1, 0, 7);
        x.set(2, 0, 6);
        x.set(3, 4, 5);
        Check.same("take()", x.take(), 1);
        Check.timerIsNotThere(x, 1);
        Check.timerIs(x, 2, true, 0, 6, 1);
        Check.timerIs(x, 3, false, 4, 5, 2);
        Check.counts(x, 0, 2, 1);
        Check.same("least()", x.least(), 4);
    }

    private static void oneSetBetweenTwoTakes() {
        TimerWheels x = new TimerWheels();
        x.set(1, 5, 0);
        x.set(2, 6, 0);
        x.go(10);
        Check.same("take()", x.take(), 1);
        x.set(3, 5, 0);
        x.set(1, 10, 9);
        x.set(4, 11, 9);
        Check.takes(x, 3, 2, 1);
    }

    private static void atBothEndsOfTime() {
        TimerWheels x = new TimerWheels();
        x.set(99, 0, 0);
        x.set(0, LAST, 0);
        x.set(50, LAST - 1, 0);
        Check.takes(x, 99);
        x.skip();
        Check.takes(x, 50);
        x.skip();
        Check.takes(x, 0);
        Check.counts(x, LAST, 0, 0);
    }

    private static void theClockStays() {
        for (State state : new State[] {State.SOME_OF_EACH, State.ALL_DUE, State.ALL_AT_THE_END}) {
            TimerWheels x = Check.made(state);
            long clock = x.count(0);
            long next = x.least();
            x.take();
            Check.same("count(0)", x.count(0), clock);
            Check.same("least()", x.least(), next);
        }
    }

    private static void noneIsThere() {
        State[] none = {State.NEW, State.EMPTIED, State.NONE_BEFORE_THE_END, State.NONE_AT_THE_END};
        for (State state : none) {
            Check.findsNone("take()", state, TimerWheels::take);
        }
    }

    private static void noneIsDue() {
        Check.findsNone("take()", State.ONE_WAITING, TimerWheels::take);
        Check.findsNone("take()", State.ALL_WAITING, TimerWheels::take);
        Check.findsNone("take() one too early", x -> x.set(3, 1, 0), TimerWheels::take);
        Check.Calls oneBeforeTheEnd = x -> {
            Check.skipTo(x, LAST - 1);
            x.set(3, LAST, 0);
        };
        Check.findsNone("take() one before 2^46", oneBeforeTheEnd, TimerWheels::take);
    }

    private static void allThatWereDueAreTaken() {
        Check.Calls twoOfThree = x -> {
            x.set(3, 1, 0);
            x.set(4, 1, 0);
            x.set(5, 2, 0);
            x.go(1);
            x.take();
            x.take();
        };
        Check.findsNone("take()", twoOfThree, TimerWheels::take);
    }

    private static void eachNumberAlone() {
        for (int j = 0; j <= 99; j++) {
            TimerWheels x = new TimerWheels();
            x.set(j, 0, 0);
            Check.takes(x, j);
            Check.same("timer(" + j + ", 0)", x.timer(j, 0), 0);
        }
    }

    private static void allHundred() {
        TimerWheels x = new TimerWheels();
        Check.goToTheEnd(x);
        for (int j = 99; j >= 0; j--) {
            x.set(j, LAST, 0);
        }
        for (int j = 99; j >= 0; j--) {
            Check.same("count(1)", x.count(1), j + 1);
            Check.same("take()", x.take(), j);
        }
        Check.takes(x);
    }
}
