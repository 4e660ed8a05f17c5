/** Promise 5: least. */
public final class Promise5LeastTest {
    public static void main(String[] args) {
        theLeastOfThoseThatAreNotDue();
        withoutAny();
        followsSetAndDrop();
        edges();
        changesNothing();
        Check.end("Promise 5, least");
    }

    private static void theLeastOfThoseThatAreNotDue() {
        TimerWheels x = new TimerWheels();
        x.set(1, 30, 0);
        x.set(2, 10, 0);
        x.set(3, 20, 9);
        Check.same("least()", x.least(), 10);
        x.go(9);
        Check.same("least() at 9", x.least(), 10);
        x.go(1);
        Check.same("least() at 10", x.least(), 20);
        x.go(15);
        Check.same("least() at 25", x.least(), 30);
        x.go(5);
        Check.same("least() at 30", x.least(), -1);
    }

    private static void withoutAny() {
        TimerWheels x = new TimerWheels();
        Check.same("least() of none", x.least(), -1);
        x.set(1, 0, 0);
        Check.same("least() of one DUE", x.least(), -1);
    }

    private static void followsSetAndDrop() {
        TimerWheels x = new TimerWheels();
        x.set(1, 30, 0);
        x.set(2, 40, 0);
        x.set(1, 50, 0);
        Check.same("least() behind a move", x.least(), 40);
        x.drop(2);
        Check.same("least() behind a drop", x.least(), 50);
        x.drop(1);
        Check.same("least() behind the last drop", x.least(), -1);
    }

    private static void edges() {
        TimerWheels x = new TimerWheels();
        x.set(99, Check.LAST_TIME, 0);
        Check.same("least() of 2^46", x.least(), Check.LAST_TIME);
        x.set(0, 1, 0);
        Check.same("least() of 1", x.least(), 1);
        Check.goToTheEnd(x);
        Check.same("least() at 2^46", x.least(), -1);
    }

    private static void changesNothing() {
        Check.Calls run = x -> {
            x.set(1, 30, 0);
            x.set(2, 1, 0);
            x.go(2);
        };
        Check.changesNothing("least()", run, TimerWheels::least);
        Check.changesNothing("least() of none", x -> { }, TimerWheels::least);
    }
}
