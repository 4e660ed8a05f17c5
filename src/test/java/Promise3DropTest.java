/** Promise 3: drop. */
public final class Promise3DropTest {
    private static final String NUMBER = "j 0 .. 99 (so for all).";
    private static final String GONE = "There is no TIMER j any more";
    private static final String NONE = "there is none: NoSuchElementException.";
    private static final String ANSWER = "Answers its TIME.";

    public static void main(String[] args) {
        Check.sentence(NUMBER, Promise3DropTest::numbersInside);
        Check.sentence(NUMBER, Promise3DropTest::numbersOutside);
        Check.sentence(GONE, Promise3DropTest::aDueOneIsGone);
        Check.sentence(GONE, Promise3DropTest::aWaitingOneIsGone);
        Check.sentence(GONE, Promise3DropTest::theNextOneComesInItsPlace);
        Check.sentence(GONE, Promise3DropTest::othersStayAsTheyAre);
        Check.sentence(GONE, Promise3DropTest::allHundredOneByOne);
        Check.sentence(GONE, Promise3DropTest::nothingOfItComesBack);
        Check.sentence(NONE, Promise3DropTest::neverSet);
        Check.sentence(NONE, Promise3DropTest::droppedOrTaken);
        Check.sentence(NONE, Promise3DropTest::onlyThatOneIsNotThere);
        Check.sentence(ANSWER, Promise3DropTest::everyTimeIsAnswered);
        Check.sentence(ANSWER, Promise3DropTest::theTimeItWasMovedTo);
        Check.end("Promise 3, drop");
    }

    private static void numbersInside() {
        for (int j : new int[] {0, 1, 98, 99}) {
            TimerWheels x = new TimerWheels();
            x.set(j, 77, 0);
            Check.same("drop(" + j + ")", x.drop(j), 77);
            Check.timerIsNotThere(x, j);
        }
    }

    private static void numbersOutside() {
        for (int j : Numbers.NO_TIMERS) {
            Check.refused("drop(" + j + ")", x -> x.drop(j));
        }
    }

    private static void aDueOneIsGone() {
        TimerWheels x = new TimerWheels();
        x.set(1, 0, 3);
        x.set(2, 9, 3);
        x.drop(1);
        Check.timerIsNotThere(x, 1);
        Check.counts(x, 0, 1, 0);
        Check.takes(x);
        Check.same("go(9)", x.go(9), 1);
        Check.takes(x, 2);
    }

    private static void aWaitingOneIsGone() {
        TimerWheels x = new TimerWheels();
        x.set(2, 9, 3);
        x.drop(2);
        Check.timerIsNotThere(x, 2);
        Check.counts(x, 0, 0, 0);
        Check.same("least()", x.least(), -1);
        Check.throwsNoSuchElement("skip()", x, TimerWheels::skip);
        Check.same("go(9)", x.go(9), 0);
        Check.takes(x);
    }

    private static void theNextOneComesInItsPlace() {
        TimerWheels x = new TimerWheels();
        x.set(1, 0, 9);
        x.set(2, 0, 8);
        x.set(3, 5, 0);
        x.set(4, 6, 0);
        x.drop(1);
        Check.takes(x, 2);
        x.drop(3);
        Check.same("least()", x.least(), 6);
        Check.same("skip()", x.skip(), 1);
        Check.counts(x, 6, 1, 1);
    }

    private static void othersStayAsTheyAre() {
        TimerWheels x = new TimerWheels();
        x.set(1, 4, 1);
        x.set(2, 4, 2);
        x.set(3, 8, 3);
        x.go(4);
        x.drop(2);
        Check.timerIs(x, 1, true, 4, 1, 0);
        Check.timerIs(x, 3, false, 8, 3, 2);
        Check.counts(x, 4, 2, 1);
        Check.takes(x, 1);
    }

    private static void allHundredOneByOne() {
        TimerWheels x = new TimerWheels();
        for (int j = 0; j <= 99; j++) {
            x.set(j, 1000 + j, 0);
        }
        for (int k = 0; k <= 99; k++) {
            int j = (k * 37 + 11) % 100;
            Check.same("drop(" + j + ")", x.drop(j), 1000 + j);
            Check.same("timer(" + j + ", 0)", x.timer(j, 0), 0);
            Check.same("count(1)", x.count(1), 99 - k);
        }
        Check.same("least()", x.least(), -1);
    }

    private static void nothingOfItComesBack() {
        TimerWheels x = new TimerWheels();
        x.set(1, 4, 7);
        x.drop(1);
        x.set(1, 6, 0);
        Check.timerIs(x, 1, false, 6, 0, 1);
        Check.counts(x, 0, 1, 0);
        Check.same("go(5)", x.go(5), 0);
        Check.same("go(1)", x.go(1), 1);
        Check.takes(x, 1);
    }

    private static void neverSet() {
        for (int j = 0; j <= 99; j++) {
            int timer = j;
            Check.findsNone("drop(" + j + ")", State.NEW, x -> x.drop(timer));
        }
        for (int j : new int[] {2, 49, 52, 98}) {
            Check.findsNone("drop(" + j + ")", State.SOME_OF_EACH, x -> x.drop(j));
        }
        for (int j : new int[] {0, 4, 99}) {
            Check.findsNone("drop(" + j + ")", State.SOME_BEFORE_THE_END, x -> x.drop(j));
            Check.findsNone("drop(" + j + ")", State.NONE_AT_THE_END, x -> x.drop(j));
        }
    }

    private static void droppedOrTaken() {
        Check.findsNone("drop(7), dropped", State.SOME_OF_EACH, x -> x.drop(7));
        Check.findsNone("drop(8), taken", State.SOME_OF_EACH, x -> x.drop(8));
        Check.findsNone("drop(0), taken", State.EMPTIED, x -> x.drop(0));
        Check.findsNone("drop(99), dropped", State.EMPTIED, x -> x.drop(99));
        Check.Calls twice = x -> {
            x.set(5, 1, 0);
            x.set(5, 2, 0);
            x.drop(5);
        };
        Check.findsNone("drop(5), set twice and dropped once", twice, x -> x.drop(5));
    }

    private static void onlyThatOneIsNotThere() {
        for (int j : new int[] {0, 50, 99}) {
            Check.Calls allButOne = x -> {
                State.ALL_AND_HALF_DUE.on(x);
                x.drop(j);
            };
            Check.findsNone("drop(" + j + ")", allButOne, x -> x.drop(j));
        }
    }

    private static void everyTimeIsAnswered() {
        for (long t : Numbers.TIMES) {
            TimerWheels x = new TimerWheels();
            x.set(6, t, 1);
            Check.same("drop(6)", x.drop(6), t);
            x.set(6, t, 1);
            Check.goToTheEnd(x);
            Check.same("drop(6), DUE", x.drop(6), t);
        }
    }

    private static void theTimeItWasMovedTo() {
        TimerWheels x = new TimerWheels();
        x.set(6, 12, 3);
        x.set(7, (1L << 32) + 5, 4);
        x.set(6, 13, 3);
        Check.same("drop(7)", x.drop(7), (1L << 32) + 5);
        Check.same("drop(6)", x.drop(6), 13);
    }
}
