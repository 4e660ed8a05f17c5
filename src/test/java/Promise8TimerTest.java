/** Promise 8: timer. */
public final class Promise8TimerTest {
    public static void main(String[] args) {
        notThereThereAndDue();
        nothingIsLeftOfOneThatWent();
        edges();
        changesNothing();
        numbersOutOfRange();
        Check.end("Promise 8, timer");
    }

    private static void notThereThereAndDue() {
        TimerWheels x = new TimerWheels();
        Check.timerIsNotThere(x, 42);
        x.set(41, 1, 1);
        x.set(42, 10, -3);
        Check.timerIs(x, 42, false, 10, -3, 1);
        x.go(9);
        Check.timerIs(x, 42, false, 10, -3, 1);
        x.go(1);
        Check.timerIs(x, 42, true, 10, -3, 1);
        x.go(1);
        Check.timerIs(x, 42, true, 10, -3, 1);
        Check.timerIsNotThere(x, 43);
    }

    private static void nothingIsLeftOfOneThatWent() {
        TimerWheels x = new TimerWheels();
        x.set(1, 1, 1);
        x.set(2, 10, 7);
        x.set(3, 10, 8);
        x.drop(2);
        Check.timerIsNotThere(x, 2);
        x.go(1);
        x.take();
        Check.timerIsNotThere(x, 1);
        Check.timerIs(x, 3, false, 10, 8, 2);
    }

    private static void edges() {
        TimerWheels x = new TimerWheels();
        x.set(0, 0, Integer.MIN_VALUE);
        x.set(99, Check.LAST_TIME, Integer.MAX_VALUE);
        Check.timerIs(x, 0, true, 0, Integer.MIN_VALUE, 0);
        Check.timerIs(x, 99, false, Check.LAST_TIME, Integer.MAX_VALUE, 1);
        Check.goToTheEnd(x);
        Check.timerIs(x, 99, true, Check.LAST_TIME, Integer.MAX_VALUE, 1);
    }

    private static void changesNothing() {
        Check.Calls run = x -> {
            x.set(1, 5, 5);
            x.set(2, 6, 6);
            x.go(5);
        };
        for (int j = 0; j <= 2; j++) {
            int timer = j;
            for (int what = 0; what <= 3; what++) {
                int asked = what;
                Check.changesNothing("timer", run, x -> x.timer(timer, asked));
            }
        }
    }

    private static void numbersOutOfRange() {
        int[] far = {Integer.MIN_VALUE, Integer.MAX_VALUE};
        Check.Calls run = x -> x.set(1, 5, 5);
        for (int j : new int[] {-1, 100, far[0], far[1]}) {
            for (int what = 0; what <= 3; what++) {
                int asked = what;
                Check.refused("timer(" + j + ", " + what + ")", run, x -> x.timer(j, asked));
            }
        }
        for (int what : new int[] {-1, 4, far[0], far[1]}) {
            Check.refused("timer(1, " + what + "), there", run, x -> x.timer(1, what));
            Check.refused("timer(2, " + what + "), not there", run, x -> x.timer(2, what));
        }
    }
}
