/**
 * States at which the tests look, each told by the run of calls that leads a new object there. A run
 * has under 120 calls, so that a test has some 390 left of the 512 that an object is used for.
 */
enum State implements Check.Calls {
    NEW(x -> { }),
    ONE_WAITING(x -> x.set(50, 10, 1)),
    ONE_DUE(x -> x.set(50, 0, 1)),
    EMPTIED(State::setAndLoseTwo),
    SOME_OF_EACH(State::setSomeOfEach),
    ALL_WAITING(x -> setAll(x, 1, 1)),
    ALL_AND_HALF_DUE(x -> setAllAndGo(x, 3)),
    ALL_DUE(x -> setAllAndGo(x, 1000)),
    NONE_BEFORE_THE_END(x -> Check.skipTo(x, Check.LAST_TIME - 1)),
    SOME_BEFORE_THE_END(State::setSomeBeforeTheEnd),
    NONE_AT_THE_END(Check::goToTheEnd),
    ALL_AT_THE_END(State::setAllAtTheEnd);

    private final Check.Calls run;

    State(Check.Calls run) {
        this.run = run;
    }

    @Override
    public void on(TimerWheels x) {
        run.on(x);
    }

    /** All 100, the greatest number first, with TIMES and PRIORITIES that some of them share. */
    private static void setAll(TimerWheels x, long firstTime, long step) {
        for (int k = 0; k < 100; k++) {
            x.set(99 - k, firstTime + k % 7 * step, k % 3 - 1);
        }
    }

    private static void setAllAndGo(TimerWheels x, long n) {
        setAll(x, 0, 1);
        x.go(n);
    }

    private static void setAllAtTheEnd(TimerWheels x) {
        Check.goToTheEnd(x);
        setAll(x, Check.LAST_TIME, -1);
    }

    /** The object has been used, but no TIMER is there. */
    private static void setAndLoseTwo(TimerWheels x) {
        x.set(0, 3, 1);
        x.set(99, 9, 2);
        x.go(3);
        x.take();
        x.drop(99);
    }

    /** Never set, dropped, taken, DUE and waiting ones, set once and set again. */
    private static void setSomeOfEach(TimerWheels x) {
        x.set(0, 5, 1);
        x.set(99, 50, 1);
        x.set(50, 5, 2);
        x.set(51, 5, 2);
        x.set(7, 6, -4);
        x.set(8, 1, 0);
        x.set(1, 1L << 40, 3);
        x.set(0, 5, 2);
        x.drop(7);
        x.go(5);
        x.take();
    }

    private static void setSomeBeforeTheEnd(TimerWheels x) {
        x.set(1, Check.LAST_TIME - 5, 0);
        x.set(2, Check.LAST_TIME, 0);
        x.set(3, Check.LAST_TIME, 1);
        x.skip();
    }
}
