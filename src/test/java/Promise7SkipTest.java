/** Promise 7: skip. */
public final class Promise7SkipTest {
    private static final String GOES = "The CLOCK goes to the least TIME of those that are not DUE";
    private static final String NONE = "there is none: NoSuchElementException.";
    private static final String ANSWER = "Answers how many are DUE.";
    private static final long LAST = Check.LAST_TIME;

    public static void main(String[] args) {
        Check.sentence(GOES, Promise7SkipTest::toTheNextOne);
        Check.sentence(GOES, Promise7SkipTest::fromEveryTimeToEveryLaterOne);
        Check.sentence(GOES, Promise7SkipTest::fartherThanGoMay);
        Check.sentence(GOES, Promise7SkipTest::byOneAtBothEnds);
        Check.sentence(GOES, Promise7SkipTest::dueOnesDoNotHoldIt);
        Check.sentence(GOES, Promise7SkipTest::theTimersStay);
        Check.sentence(GOES, Promise7SkipTest::throughAllHundred);
        Check.sentence(NONE, Promise7SkipTest::noneIsThere);
        Check.sentence(NONE, Promise7SkipTest::allThatAreThereAreDue);
        Check.sentence(NONE, Promise7SkipTest::theLastOneWaitingWent);
        Check.sentence(ANSWER, Promise7SkipTest::thoseOfBeforeToo);
        Check.sentence(ANSWER, Promise7SkipTest::allHundredAtOnce);
        Check.end("Promise 7, skip");
    }

    private static void toTheNextOne() {
        TimerWheels x = new TimerWheels();
        x.set(1, 500, 0);
        x.set(2, 20, 0);
        x.set(3, 20, 5);
        Check.same("skip()", x.skip(), 2);
        Check.counts(x, 20, 3, 2);
        Check.takes(x, 3, 2);
        Check.same("skip()", x.skip(), 1);
        Check.counts(x, 500, 1, 1);
        Check.takes(x, 1);
    }

    private static void fromEveryTimeToEveryLaterOne() {
        for (long early : Numbers.TIMES) {
            for (long late : Numbers.TIMES) {
                if (early < late) {
                    TimerWheels x = Check.made(y -> Check.skipTo(y, early));
                    x.set(1, late, 0);
                    Check.same("skip() from " + early + " to " + late, x.skip(), 1);
                    Check.counts(x, late, 1, 1);
                }
            }
        }
    }

    private static void fartherThanGoMay() {
        TimerWheels x = new TimerWheels();
        x.set(0, LAST, 0);
        Check.same("skip() from 0 to 2^46", x.skip(), 1);
        Check.counts(x, LAST, 1, 1);
        TimerWheels z = new TimerWheels();
        z.set(0, Check.LONGEST_GO + 1, 0);
        Check.same("skip() from 0 to 2^44 + 1", z.skip(), 1);
        Check.counts(z, Check.LONGEST_GO + 1, 1, 1);
    }

    private static void byOneAtBothEnds() {
        TimerWheels x = new TimerWheels();
        x.set(0, 1, 0);
        x.set(1, LAST - 1, 0);
        x.set(2, LAST, 0);
        Check.same("skip() to 1", x.skip(), 1);
        Check.same("count(0)", x.count(0), 1);
        Check.same("skip() to 2^46 - 1", x.skip(), 2);
        Check.same("count(0)", x.count(0), LAST - 1);
        Check.same("skip() to 2^46", x.skip(), 3);
        Check.same("count(0)", x.count(0), LAST);
    }

    private static void dueOnesDoNotHoldIt() {
        TimerWheels x = new TimerWheels();
        x.go(10);
        x.set(1, 0, 0);
        x.set(2, 10, 0);
        x.set(3, 12, 0);
        Check.same("skip()", x.skip(), 3);
        Check.same("count(0)", x.count(0), 12);
    }

    private static void theTimersStay() {
        TimerWheels x = new TimerWheels();
        x.set(1, 10, 3);
        x.set(2, 20, 4);
        x.skip();
        Check.timerIs(x, 1, true, 10, 3, 0);
        Check.timerIs(x, 2, false, 20, 4, 1);
        Check.counts(x, 10, 2, 1);
        Check.same("set(3, 0, 0)", x.set(3, 0, 0), 2);
    }

    private static void throughAllHundred() {
        TimerWheels x = new TimerWheels();
        for (int j = 0; j <= 99; j++) {
            x.set(j, (100L - j) << 39, 0);
        }
        for (int due = 1; due <= 100; due++) {
            Check.same("least()", x.least(), (long) due << 39);
            Check.same("skip()", x.skip(), due);
            Check.same("count(0)", x.count(0), (long) due << 39);
        }
        Check.throwsNoSuchElement("skip() behind the last", x, TimerWheels::skip);
    }

    private static void noneIsThere() {
        State[] none = {State.NEW, State.EMPTIED, State.NONE_BEFORE_THE_END, State.NONE_AT_THE_END};
        for (State state : none) {
            Check.findsNone("skip()", state, TimerWheels::skip);
        }
    }

    private static void allThatAreThereAreDue() {
        for (State state : new State[] {State.ONE_DUE, State.ALL_DUE, State.ALL_AT_THE_END}) {
            Check.findsNone("skip()", state, TimerWheels::skip);
        }
        Check.Calls skippedToTheEnd = x -> {
            x.set(0, LAST, 0);
            x.skip();
        };
        Check.findsNone("skip() at 2^46", skippedToTheEnd, TimerWheels::skip);
    }

    private static void theLastOneWaitingWent() {
        Check.Calls dropped = x -> {
            x.set(1, 5, 0);
            x.set(2, 9, 0);
            x.skip();
            x.drop(2);
        };
        Check.findsNone("skip() behind a drop", dropped, TimerWheels::skip);
        Check.Calls moved = x -> {
            x.set(1, 5, 0);
            x.set(2, 9, 0);
            x.skip();
            x.set(2, 5, 0);
        };
        Check.findsNone("skip() behind a move", moved, TimerWheels::skip);
    }

    private static void thoseOfBeforeToo() {
        TimerWheels x = new TimerWheels();
        x.set(1, 0, 0);
        x.set(2, 20, 0);
        x.set(3, 21, 0);
        x.set(4, 22, 0);
        Check.same("skip()", x.skip(), 2);
        Check.same("skip()", x.skip(), 3);
        x.take();
        x.drop(2);
        Check.same("skip() behind take and drop", x.skip(), 2);
        Check.same("count(0)", x.count(0), 22);
    }

    private static void allHundredAtOnce() {
        TimerWheels x = new TimerWheels();
        for (int j = 0; j <= 99; j++) {
            x.set(j, LAST, 0);
        }
        Check.same("skip()", x.skip(), 100);
        Check.counts(x, LAST, 100, 100);
    }
}
