/** Promise 3: drop. */
public final class Promise3DropTest {
    public static void main(String[] args) {
        answersTheTime();
        aDroppedTimerIsGone();
        dropLeavesTheOthersAlone();
        edges();
        thereIsNone();
        numbersOutOfRange();
        Check.end("Promise 3, drop");
    }

    private static void answersTheTime() {
        TimerWheels x = new TimerWheels();
        x.set(6, 12, 3);
        x.set(7, (1L << 32) + 5, 4);
        x.set(6, 13, 3);
        Check.same("drop(7)", x.drop(7), (1L << 32) + 5);
        Check.same("drop(6)", x.drop(6), 13);
    }

    private static void aDroppedTimerIsGone() {
        TimerWheels x = new TimerWheels();
        x.set(1, 0, 3);
        x.set(2, 9, 3);
        x.drop(1);
        Check.timerIsNotThere(x, 1);
        Check.counts(x, 0, 1, 0);
        Check.takes(x);
        x.drop(2);
        Check.timerIsNotThere(x, 2);
        Check.counts(x, 0, 0, 0);
        Check.same("least()", x.least(), -1);
        Check.same("go(9)", x.go(9), 0);
    }

    private static void dropLeavesTheOthersAlone() {
        TimerWheels x = new TimerWheels();
        x.set(1, 4, 1);
        x.set(2, 4, 2);
        x.set(3, 8, 3);
        x.go(4);
        x.drop(2);
        Check.timerIs(x, 1, true, 4, 1, 0);
        Check.timerIs(x, 3, false, 8, 3, 2);
        Check.counts(x, 4, 2, 1);
        Check.takes(x, 1);
    }

    private static void edges() {
        TimerWheels x = new TimerWheels();
        x.set(0, 0, 0);
        x.set(99, Check.LAST_TIME, 0);
        Check.same("drop(0)", x.drop(0), 0);
        Check.same("drop(99)", x.drop(99), Check.LAST_TIME);
        Check.counts(x, 0, 0, 0);
    }

    private static void thereIsNone() {
        Check.Calls run = x -> {
            x.set(5, 1, 1);
            x.set(6, 2, 1);
            x.set(7, 3, 1);
            x.drop(6);
            x.go(1);
            x.take();
        };
        Check.findsNone("drop(0) on a new object", x -> { }, x -> x.drop(0));
        Check.findsNone("drop(4), never set", run, x -> x.drop(4));
        Check.findsNone("drop(5), taken", run, x -> x.drop(5));
        Check.findsNone("drop(6), dropped", run, x -> x.drop(6));
        Check.findsNone("drop(99), never set", run, x -> x.drop(99));
    }

    private static void numbersOutOfRange() {
        for (int j : new int[] {-1, 100, Integer.MIN_VALUE, Integer.MAX_VALUE}) {
            Check.refused("drop(" + j + ")", x -> { }, x -> x.drop(j));
            Check.refused("drop(" + j + ")", x -> x.set(0, 1, 1), x -> x.drop(j));
        }
    }
}
