/** Promise 9: count. */
public final class Promise9CountTest {
    public static void main(String[] args) {
        clockTimersAndDueOnes();
        noneAndAHundred();
        theClockAtItsEdges();
        changesNothing();
        numbersOutOfRange();
        Check.end("Promise 9, count");
    }

    private static void clockTimersAndDueOnes() {
        TimerWheels x = new TimerWheels();
        x.set(1, 0, 0);
        Check.counts(x, 0, 1, 1);
        x.set(2, 10, 0);
        x.set(3, 20, 0);
        Check.counts(x, 0, 3, 1);
        x.go(10);
        Check.counts(x, 10, 3, 2);
        x.skip();
        Check.counts(x, 20, 3, 3);
        x.take();
        Check.counts(x, 20, 2, 2);
        x.set(2, 30, 0);
        Check.counts(x, 20, 2, 1);
        x.drop(2);
        Check.counts(x, 20, 1, 1);
        x.drop(3);
        Check.counts(x, 20, 0, 0);
    }

    private static void noneAndAHundred() {
        TimerWheels x = new TimerWheels();
        Check.counts(x, 0, 0, 0);
        for (int j = 0; j <= 99; j++) {
            x.set(j, j, 0);
            Check.counts(x, 0, j + 1, 1);
        }
        x.go(99);
        Check.counts(x, 99, 100, 100);
    }

    private static void theClockAtItsEdges() {
        TimerWheels x = new TimerWheels();
        x.set(0, Check.LAST_TIME, 0);
        Check.counts(x, 0, 1, 0);
        Check.goToTheEnd(x);
        Check.counts(x, Check.LAST_TIME, 1, 1);
    }

    private static void changesNothing() {
        Check.Calls run = x -> {
            x.set(1, 5, 5);
            x.set(2, 6, 6);
            x.go(5);
        };
        for (int what = 0; what <= 2; what++) {
            int asked = what;
            Check.changesNothing("count(" + what + ")", run, x -> x.count(asked));
        }
    }

    private static void numbersOutOfRange() {
        for (int what : new int[] {-1, 3, Integer.MIN_VALUE, Integer.MAX_VALUE}) {
            Check.refused("count(" + what + ")", x -> x.set(1, 0, 0), x -> x.count(what));
        }
    }
}
