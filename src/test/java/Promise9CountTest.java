/** Promise 9: count. */
public final class Promise9CountTest {
    private static final String CLOCK = "what 0 the CLOCK";
    private static final String TIMERS = "1 TIMERS";
    private static final String DUE = "2 DUE ones.";
    private static final String WHAT = "what 0 .. 2.";

    public static void main(String[] args) {
        Check.sentence(CLOCK, Promise9CountTest::theClockAtItsEnds);
        Check.sentence(CLOCK, Promise9CountTest::theClockAtEveryTime);
        Check.sentence(TIMERS, Promise9CountTest::fromNoneToAllHundredAndBack);
        Check.sentence(TIMERS, Promise9CountTest::dueOnesAreTimersToo);
        Check.sentence(DUE, Promise9CountTest::noDueOneToAHundredAndBack);
        Check.sentence(DUE, Promise9CountTest::waitingOnesAreNotCounted);
        Check.sentence(DUE, Promise9CountTest::behindEachCall);
        Check.sentence(WHAT, Promise9CountTest::inEveryState);
        Check.sentence(WHAT, Promise9CountTest::changesNothing);
        Check.sentence(WHAT, Promise9CountTest::whatOutside);
        Check.end("Promise 9, count");
    }

    private static void theClockAtItsEnds() {
        TimerWheels x = new TimerWheels();
        x.set(0, Check.LAST_TIME, 0);
        Check.same("count(0)", x.count(0), 0);
        x.skip();
        Check.same("count(0)", x.count(0), Check.LAST_TIME);
        TimerWheels z = new TimerWheels();
        Check.goToTheEnd(z);
        Check.same("count(0)", z.count(0), Check.LAST_TIME);
    }

    private static void theClockAtEveryTime() {
        for (long clock : Numbers.TIMES) {
            TimerWheels x = Check.made(y -> Check.skipTo(y, clock));
            Check.counts(x, clock, 0, 0);
        }
    }

    private static void fromNoneToAllHundredAndBack() {
        TimerWheels x = new TimerWheels();
        Check.same("count(1)", x.count(1), 0);
        for (int j = 0; j <= 99; j++) {
            x.set(j, 5, 0);
            Check.same("count(1)", x.count(1), j + 1);
        }
        x.set(0, 5, 0);
        Check.same("count(1), one set again", x.count(1), 100);
        for (int j = 0; j <= 99; j++) {
            x.drop(j);
            Check.same("count(1)", x.count(1), 99 - j);
        }
    }

    private static void dueOnesAreTimersToo() {
        TimerWheels x = new TimerWheels();
        x.set(1, 0, 0);
        x.set(2, 1, 0);
        Check.same("count(1)", x.count(1), 2);
        x.go(1);
        Check.same("count(1)", x.count(1), 2);
    }

    private static void noDueOneToAHundredAndBack() {
        TimerWheels x = new TimerWheels();
        for (int j = 0; j <= 99; j++) {
            Check.same("count(2)", x.count(2), j);
            x.set(j, 0, 0);
        }
        Check.same("count(2)", x.count(2), 100);
        for (int j = 0; j <= 99; j++) {
            x.take();
            Check.same("count(2)", x.count(2), 99 - j);
        }
    }

    private static void waitingOnesAreNotCounted() {
        TimerWheels x = new TimerWheels();
        for (int j = 0; j <= 99; j++) {
            x.set(j, j + 1, 0);
        }
        for (int clock = 0; clock <= 100; clock++) {
            Check.counts(x, clock, 100, clock);
            x.go(1);
        }
    }

    private static void behindEachCall() {
        TimerWheels x = new TimerWheels();
        x.set(1, 0, 0);
        Check.counts(x, 0, 1, 1);
        x.set(2, 10, 0);
        x.set(3, 20, 0);
        Check.counts(x, 0, 3, 1);
        x.go(10);
        Check.counts(x, 10, 3, 2);
        x.skip();
        Check.counts(x, 20, 3, 3);
        x.take();
        Check.counts(x, 20, 2, 2);
        x.set(2, 30, 0);
        Check.counts(x, 20, 2, 1);
        x.drop(2);
        Check.counts(x, 20, 1, 1);
        x.drop(3);
        Check.counts(x, 20, 0, 0);
    }

    private static void inEveryState() {
        long end = Check.LAST_TIME;
        Check.counts(Check.made(State.NEW), 0, 0, 0);
        Check.counts(Check.made(State.ONE_WAITING), 0, 1, 0);
        Check.counts(Check.made(State.ONE_DUE), 0, 1, 1);
        Check.counts(Check.made(State.EMPTIED), 3, 0, 0);
        Check.counts(Check.made(State.SOME_OF_EACH), 5, 5, 3);
        Check.counts(Check.made(State.ALL_WAITING), 0, 100, 0);
        Check.counts(Check.made(State.ALL_AND_HALF_DUE), 3, 100, 58);
        Check.counts(Check.made(State.ALL_DUE), 1000, 100, 100);
        Check.counts(Check.made(State.NONE_BEFORE_THE_END), end - 1, 0, 0);
        Check.counts(Check.made(State.SOME_BEFORE_THE_END), end - 5, 3, 1);
        Check.counts(Check.made(State.NONE_AT_THE_END), end, 0, 0);
        Check.counts(Check.made(State.ALL_AT_THE_END), end, 100, 100);
    }

    private static void changesNothing() {
        for (int what = 0; what <= 2; what++) {
            int asked = what;
            Check.changesNothing("count(" + what + ")", x -> x.count(asked));
        }
    }

    private static void whatOutside() {
        for (int what : Numbers.beside(2)) {
            Check.refused("count(" + what + ")", x -> x.count(what));
        }
    }
}
