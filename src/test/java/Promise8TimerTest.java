/** Promise 8: timer. */
public final class Promise8TimerTest {
    private static final String NUMBER = "j 0 .. 99 (so for all).";
    private static final String STATE = "what 0: 0 it is not there, 1 it is, 2 it is DUE";
    private static final String VALUES = "1 its TIME, 2 its PRIORITY, 3 its AGE";
    private static final String NOT_THERE = "(0 if it is not there).";
    private static final String WHAT = "what 0 .. 3.";

    public static void main(String[] args) {
        Check.sentence(NUMBER, Promise8TimerTest::numbersInside);
        Check.sentence(NUMBER, Promise8TimerTest::numbersOutside);
        Check.sentence(STATE, Promise8TimerTest::notThereThereAndDue);
        Check.sentence(STATE, Promise8TimerTest::dueAndThenMoved);
        Check.sentence(VALUES, Promise8TimerTest::theEndsOfEachValue);
        Check.sentence(VALUES, Promise8TimerTest::theSameDueOrNot);
        Check.sentence(VALUES, Promise8TimerTest::ofAllHundred);
        Check.sentence(VALUES, Promise8TimerTest::changesNothing);
        Check.sentence(NOT_THERE, Promise8TimerTest::neverSet);
        Check.sentence(NOT_THERE, Promise8TimerTest::droppedOrTaken);
        Check.sentence(NOT_THERE, Promise8TimerTest::onlyThatOneIsNotThere);
        Check.sentence(WHAT, Promise8TimerTest::whatInside);
        Check.sentence(WHAT, Promise8TimerTest::whatOutside);
        Check.end("Promise 8, timer");
    }

    private static void numbersInside() {
        for (int j : new int[] {0, 1, 98, 99}) {
            TimerWheels x = new TimerWheels();
            Check.timerIsNotThere(x, j);
            x.set(50, 1, 1);
            x.set(j, 8, 9);
            Check.timerIs(x, j, false, 8, 9, 1);
        }
    }

    private static void numbersOutside() {
        for (int j : Numbers.NO_TIMERS) {
            for (int what = 0; what <= 3; what++) {
                int asked = what;
                Check.refused("timer(" + j + ", " + what + ")", x -> x.timer(j, asked));
            }
        }
    }

    private static void notThereThereAndDue() {
        TimerWheels x = new TimerWheels();
        Check.same("timer(42, 0), not there", x.timer(42, 0), 0);
        x.set(42, 10, -3);
        Check.same("timer(42, 0) at 0", x.timer(42, 0), 1);
        x.go(9);
        Check.same("timer(42, 0) at 9", x.timer(42, 0), 1);
        x.go(1);
        Check.same("timer(42, 0) at 10", x.timer(42, 0), 2);
        x.go(1);
        Check.same("timer(42, 0) at 11", x.timer(42, 0), 2);
        x.take();
        Check.same("timer(42, 0), taken", x.timer(42, 0), 0);
    }

    private static void dueAndThenMoved() {
        TimerWheels x = new TimerWheels();
        x.set(42, 0, 0);
        Check.same("timer(42, 0)", x.timer(42, 0), 2);
        x.set(42, 1, 0);
        Check.same("timer(42, 0), moved on", x.timer(42, 0), 1);
        x.set(42, 0, 0);
        Check.same("timer(42, 0), moved back", x.timer(42, 0), 2);
        x.drop(42);
        Check.same("timer(42, 0), dropped", x.timer(42, 0), 0);
    }

    private static void theEndsOfEachValue() {
        TimerWheels x = new TimerWheels();
        x.set(0, 0, Integer.MIN_VALUE);
        x.set(99, Check.LAST_TIME, Integer.MAX_VALUE);
        x.set(1, 1, -1);
        x.set(98, Check.LAST_TIME - 1, 0);
        Check.timerIs(x, 0, true, 0, Integer.MIN_VALUE, 0);
        Check.timerIs(x, 99, false, Check.LAST_TIME, Integer.MAX_VALUE, 1);
        Check.timerIs(x, 1, false, 1, -1, 2);
        Check.timerIs(x, 98, false, Check.LAST_TIME - 1, 0, 3);
    }

    private static void theSameDueOrNot() {
        TimerWheels x = new TimerWheels();
        x.set(7, 5, 5);
        x.set(99, Check.LAST_TIME, Integer.MIN_VALUE);
        Check.timerIs(x, 99, false, Check.LAST_TIME, Integer.MIN_VALUE, 1);
        Check.goToTheEnd(x);
        Check.timerIs(x, 99, true, Check.LAST_TIME, Integer.MIN_VALUE, 1);
        Check.timerIs(x, 7, true, 5, 5, 0);
    }

    private static void ofAllHundred() {
        TimerWheels x = new TimerWheels();
        for (int j = 99; j >= 0; j--) {
            x.set(j, 300 + j, 200 - j);
        }
        x.go(349);
        for (int j = 0; j <= 99; j++) {
            Check.timerIs(x, j, j <= 49, 300 + j, 200 - j, 99 - j);
        }
    }

    private static void changesNothing() {
        for (int j : new int[] {0, 7, 50, 99}) {
            for (int what = 0; what <= 3; what++) {
                int asked = what;
                Check.changesNothing("timer(" + j + ", " + what + ")", x -> x.timer(j, asked));
            }
        }
    }

    private static void neverSet() {
        TimerWheels x = new TimerWheels();
        x.set(1, 5, 6);
        x.set(3, 7, 8);
        for (int j = 0; j <= 99; j++) {
            if (j != 1 && j != 3) {
                Check.timerIsNotThere(x, j);
            }
        }
    }

    private static void droppedOrTaken() {
        TimerWheels x = new TimerWheels();
        x.set(1, 1, 1);
        x.set(2, 10, 7);
        x.set(3, 10, 8);
        x.drop(2);
        Check.timerIsNotThere(x, 2);
        x.go(1);
        x.take();
        Check.timerIsNotThere(x, 1);
        Check.timerIs(x, 3, false, 10, 8, 2);
    }

    private static void onlyThatOneIsNotThere() {
        for (int j : new int[] {0, 50, 99}) {
            TimerWheels x = Check.made(State.ALL_AND_HALF_DUE);
            x.drop(j);
            Check.timerIsNotThere(x, j);
        }
    }

    private static void whatInside() {
        TimerWheels x = new TimerWheels();
        x.set(4, 0, 0);
        x.set(5, 60, 70);
        Check.same("timer(5, 0)", x.timer(5, 0), 1);
        Check.same("timer(5, 1)", x.timer(5, 1), 60);
        Check.same("timer(5, 2)", x.timer(5, 2), 70);
        Check.same("timer(5, 3)", x.timer(5, 3), 1);
    }

    /** The states hold TIMER 50 waiting, DUE and not there. */
    private static void whatOutside() {
        for (int what : Numbers.beside(3)) {
            Check.refused("timer(0, " + what + ")", x -> x.timer(0, what));
            Check.refused("timer(50, " + what + ")", x -> x.timer(50, what));
            Check.refused("timer(99, " + what + ")", x -> x.timer(99, what));
        }
    }
}
