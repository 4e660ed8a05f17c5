/** Promise 5: least. */
public final class Promise5LeastTest {
    private static final String LEAST = "The least TIME of those that are not DUE";
    private static final String WITHOUT = "-1 without.";
    private static final long LAST = Check.LAST_TIME;

    public static void main(String[] args) {
        Check.sentence(LEAST, Promise5LeastTest::theLeastAsTheClockGoes);
        Check.sentence(LEAST, Promise5LeastTest::everyTimeThatIsNotDue);
        Check.sentence(LEAST, Promise5LeastTest::oneBehindTheClockIsNotLooked);
        Check.sentence(LEAST, Promise5LeastTest::followsSetDropAndTake);
        Check.sentence(LEAST, Promise5LeastTest::ofAllHundred);
        Check.sentence(LEAST, Promise5LeastTest::twoWithTheSameTime);
        Check.sentence(LEAST, Promise5LeastTest::changesNothing);
        Check.sentence(WITHOUT, Promise5LeastTest::noneIsThere);
        Check.sentence(WITHOUT, Promise5LeastTest::allThatAreThereAreDue);
        Check.end("Promise 5, least");
    }

    private static void theLeastAsTheClockGoes() {
        TimerWheels x = new TimerWheels();
        x.set(1, 30, 0);
        x.set(2, 10, 0);
        x.set(3, 20, 9);
        Check.same("least()", x.least(), 10);
        x.go(9);
        Check.same("least() at 9", x.least(), 10);
        x.go(1);
        Check.same("least() at 10", x.least(), 20);
        x.go(15);
        Check.same("least() at 25", x.least(), 30);
        x.go(5);
        Check.same("least() at 30", x.least(), -1);
    }

    private static void everyTimeThatIsNotDue() {
        for (long clock : Numbers.TIMES) {
            for (long t : Numbers.TIMES) {
                TimerWheels x = Check.made(y -> Check.skipTo(y, clock));
                x.set(1, t, 0);
                Check.same("least() of " + t + " at " + clock, x.least(), t > clock ? t : -1);
                x.set(2, LAST, 0);
                long due = t > clock ? t : clock < LAST ? LAST : -1;
                Check.same("least() of " + t + " and 2^46 at " + clock, x.least(), due);
            }
        }
    }

    private static void oneBehindTheClockIsNotLooked() {
        TimerWheels x = new TimerWheels();
        x.set(1, 0, 0);
        x.set(2, 1, 0);
        Check.same("least() at 0", x.least(), 1);
        x.go(5);
        x.set(3, 4, 0);
        x.set(4, 5, 0);
        x.set(5, 6, 0);
        Check.same("least() at 5", x.least(), 6);
    }

    private static void followsSetDropAndTake() {
        TimerWheels x = new TimerWheels();
        x.set(1, 30, 0);
        x.set(2, 40, 0);
        x.set(1, 50, 0);
        Check.same("least() behind a move", x.least(), 40);
        x.set(3, 0, 0);
        x.take();
        Check.same("least() behind a take", x.least(), 40);
        x.drop(2);
        Check.same("least() behind a drop", x.least(), 50);
        x.drop(1);
        Check.same("least() behind the last drop", x.least(), -1);
    }

    private static void ofAllHundred() {
        for (int first = 0; first <= 99; first++) {
            TimerWheels x = new TimerWheels();
            for (int j = 0; j <= 99; j++) {
                x.set(j, j == first ? 7 : 8 + j, j);
            }
            Check.same("least(), of TIMER " + first, x.least(), 7);
        }
    }

    private static void twoWithTheSameTime() {
        TimerWheels x = new TimerWheels();
        x.set(1, 9, 0);
        x.set(2, 9, 0);
        x.drop(1);
        Check.same("least()", x.least(), 9);
        x.drop(2);
        Check.same("least()", x.least(), -1);
    }

    private static void changesNothing() {
        Check.changesNothing("least()", TimerWheels::least);
    }

    private static void noneIsThere() {
        State[] none = {State.NEW, State.EMPTIED, State.NONE_BEFORE_THE_END, State.NONE_AT_THE_END};
        for (State state : none) {
            Check.same("least() in state " + state, Check.made(state).least(), -1);
        }
    }

    private static void allThatAreThereAreDue() {
        for (State state : new State[] {State.ONE_DUE, State.ALL_DUE, State.ALL_AT_THE_END}) {
            Check.same("least() in state " + state, Check.made(state).least(), -1);
        }
        TimerWheels x = new TimerWheels();
        x.set(1, LAST, 0);
        x.skip();
        Check.same("least() at 2^46", x.least(), -1);
    }
}
