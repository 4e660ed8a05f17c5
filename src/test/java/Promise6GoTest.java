/** Promise 6: go. */
public final class Promise6GoTest {
    private static final String GOES = "The CLOCK goes on by n";
    private static final String RANGE = "0 .. 2^44 [...] (else IllegalArgumentException)";
    private static final String END = "at most to 2^46 (else IllegalArgumentException).";
    private static final String ANSWER = "Answers how many are DUE.";
    private static final long LAST = Check.LAST_TIME;
    private static final long MOST = Check.LONGEST_GO;

    public static void main(String[] args) {
        Check.sentence(GOES, Promise6GoTest::theClockGoesOnByN);
        Check.sentence(GOES, Promise6GoTest::itPassesWhatIsOnItsWay);
        Check.sentence(GOES, Promise6GoTest::theTimersStay);
        Check.sentence(RANGE, Promise6GoTest::byNothing);
        Check.sentence(RANGE, Promise6GoTest::distancesInside);
        Check.sentence(RANGE, Promise6GoTest::distancesOutside);
        Check.sentence(END, Promise6GoTest::fourTimesTheMost);
        Check.sentence(END, Promise6GoTest::upToTheEndFromNear);
        Check.sentence(END, Promise6GoTest::theMostJustUpToTheEnd);
        Check.sentence(END, Promise6GoTest::beyondTheEnd);
        Check.sentence(END, Promise6GoTest::outOfBothRanges);
        Check.sentence(ANSWER, Promise6GoTest::noneOneAndMore);
        Check.sentence(ANSWER, Promise6GoTest::allHundred);
        Check.sentence(ANSWER, Promise6GoTest::thoseThatWereDueBeforeToo);
        Check.end("Promise 6, go");
    }

    private static void theClockGoesOnByN() {
        TimerWheels x = new TimerWheels();
        x.go(7);
        Check.same("count(0)", x.count(0), 7);
        x.go(1L << 33);
        Check.same("count(0)", x.count(0), (1L << 33) + 7);
        x.go(1);
        Check.same("count(0)", x.count(0), (1L << 33) + 8);
    }

    private static void itPassesWhatIsOnItsWay() {
        TimerWheels x = new TimerWheels();
        x.set(1, 10, 0);
        x.set(2, 20, 0);
        Check.same("go(1000)", x.go(1000), 2);
        Check.counts(x, 1000, 2, 2);
        Check.takes(x, 1, 2);
    }

    private static void theTimersStay() {
        TimerWheels x = new TimerWheels();
        x.set(1, 10, 3);
        x.set(2, 20, 4);
        x.go(15);
        Check.timerIs(x, 1, true, 10, 3, 0);
        Check.timerIs(x, 2, false, 20, 4, 1);
        Check.counts(x, 15, 2, 1);
        Check.same("set(3, 0, 0)", x.set(3, 0, 0), 2);
    }

    private static void byNothing() {
        Check.changesNothing("go(0)", x -> x.go(0));
        for (State state : State.values()) {
            TimerWheels x = Check.made(state);
            Check.same("go(0) in state " + state, x.go(0), x.count(2));
        }
    }

    private static void distancesInside() {
        for (long n : new long[] {0, 1, 2, (1L << 31) - 1, 1L << 31, 1L << 32, MOST - 1, MOST}) {
            TimerWheels x = new TimerWheels();
            x.set(1, n, 0);
            x.set(2, n + 1, 0);
            Check.same("go(" + n + ")", x.go(n), 1);
            Check.counts(x, n, 2, 1);
        }
    }

    private static void distancesOutside() {
        for (long n : Numbers.NO_DISTANCES) {
            Check.refused("go(" + n + ")", x -> x.go(n));
        }
    }

    private static void fourTimesTheMost() {
        TimerWheels x = new TimerWheels();
        x.set(1, LAST, 0);
        for (int step = 1; step <= 3; step++) {
            Check.same("go(2^44)", x.go(MOST), 0);
            Check.same("count(0)", x.count(0), step * MOST);
        }
        Check.same("go(2^44 - 1)", x.go(MOST - 1), 0);
        Check.same("go(1)", x.go(1), 1);
        Check.counts(x, LAST, 1, 1);
    }

    private static void upToTheEndFromNear() {
        for (long left : new long[] {0, 1, 2, 5, 1L << 32}) {
            TimerWheels x = Check.made(y -> Check.skipTo(y, LAST - left));
            x.set(1, LAST, 0);
            Check.same("go(" + left + ") up to 2^46", x.go(left), 1);
            Check.counts(x, LAST, 1, 1);
        }
    }

    /** Where both ends meet: at 2^46 - 2^44 the most that go may, and the most that is left, is 2^44. */
    private static void theMostJustUpToTheEnd() {
        TimerWheels x = Check.made(y -> Check.skipTo(y, LAST - MOST));
        x.go(MOST);
        Check.same("count(0)", x.count(0), LAST);
        Check.Calls oneOn = y -> Check.skipTo(y, LAST - MOST + 1);
        Check.refused("go(2^44) with 2^44 - 1 left", oneOn, y -> y.go(MOST));
        TimerWheels z = Check.made(oneOn);
        z.go(MOST - 1);
        Check.same("count(0)", z.count(0), LAST);
        Check.Calls oneBefore = y -> Check.skipTo(y, LAST - MOST - 1);
        Check.refused("go(2^44 + 1) with 2^44 + 1 left", oneBefore, y -> y.go(MOST + 1));
    }

    private static void beyondTheEnd() {
        State[] atTheEnd = {State.NONE_AT_THE_END, State.ALL_AT_THE_END};
        for (State state : atTheEnd) {
            for (long n : new long[] {1, 2, 1L << 32, MOST - 1, MOST}) {
                Check.refused("go(" + n + ")", state, x -> x.go(n));
            }
        }
        for (long n : new long[] {6, 7, 1L << 32, MOST - 1, MOST}) {
            Check.refused("go(" + n + ") with 5 left", State.SOME_BEFORE_THE_END, x -> x.go(n));
        }
        Check.refused("go(2) with 1 left", State.NONE_BEFORE_THE_END, x -> x.go(2));
    }

    /** CLOCK and n together would be too much even for a long. */
    private static void outOfBothRanges() {
        for (State state : new State[] {State.NONE_AT_THE_END, State.SOME_BEFORE_THE_END}) {
            Check.refused("go(greatest)", state, x -> x.go(Long.MAX_VALUE));
            Check.refused("go(greatest - 2^46)", state, x -> x.go(Long.MAX_VALUE - LAST));
            Check.refused("go(greatest - 2^46 + 1)", state, x -> x.go(Long.MAX_VALUE - LAST + 1));
        }
    }

    private static void noneOneAndMore() {
        TimerWheels x = new TimerWheels();
        x.set(1, 10, 0);
        x.set(2, 10, 1);
        x.set(3, 300, 0);
        Check.same("go(9)", x.go(9), 0);
        Check.same("go(1)", x.go(1), 2);
        Check.same("go(289)", x.go(289), 2);
        Check.same("go(1)", x.go(1), 3);
    }

    private static void allHundred() {
        TimerWheels x = new TimerWheels();
        for (int j = 0; j <= 99; j++) {
            x.set(j, j + 1, 0);
        }
        for (int due = 1; due <= 100; due++) {
            Check.same("go(1) to " + due, x.go(1), due);
        }
        Check.same("go(1) beyond them", x.go(1), 100);
        Check.same("go(2^44) in state ALL_WAITING", Check.made(State.ALL_WAITING).go(MOST), 100);
    }

    private static void thoseThatWereDueBeforeToo() {
        TimerWheels x = new TimerWheels();
        x.set(1, 0, 0);
        x.set(2, 3, 0);
        x.set(3, 3, 0);
        x.set(4, 6, 0);
        Check.same("go(3)", x.go(3), 3);
        x.take();
        Check.same("go(1) behind a take", x.go(1), 2);
        x.drop(2);
        Check.same("go(1) behind a drop", x.go(1), 1);
        x.set(3, 7, 0);
        Check.same("go(1) behind a move", x.go(1), 1);
    }
}
