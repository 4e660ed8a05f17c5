/** "What is thrown, in this order", and "A call that throws changes nothing." */
public final class ThrownTest {
    private static final String IN_THIS_ORDER = "What is thrown, in this order: "
            + "IllegalArgumentException: a number out of range; "
            + "NoSuchElementException: as the call says.";
    private static final String NOTHING = "A call that throws changes nothing.";

    public static void main(String[] args) {
        Check.sentence(IN_THIS_ORDER, ThrownTest::outOfRangeGoesBeforeThereIsNone);
        Check.sentence(IN_THIS_ORDER, ThrownTest::twoNumbersOutOfRange);
        Check.sentence(IN_THIS_ORDER, ThrownTest::inRangeNothingIsThrown);
        Check.sentence(NOTHING, ThrownTest::manyCallsThatThrow);
        Check.sentence(NOTHING, ThrownTest::aRunGoesOnAsWithoutThem);
        Check.end("What is thrown");
    }

    /** In the states without a TIMER, drop could answer either. */
    private static void outOfRangeGoesBeforeThereIsNone() {
        State[] none = {State.NEW, State.EMPTIED, State.NONE_BEFORE_THE_END, State.NONE_AT_THE_END};
        for (State state : none) {
            for (int j : Numbers.NO_TIMERS) {
                Check.refused("drop(" + j + ")", state, x -> x.drop(j));
            }
            Check.findsNone("drop(0)", state, x -> x.drop(0));
            Check.findsNone("drop(99)", state, x -> x.drop(99));
        }
    }

    private static void twoNumbersOutOfRange() {
        Check.refused("set(-1, -1, 0)", x -> x.set(-1, -1, 0));
        Check.refused("set(100, 2^46 + 1, 0)", x -> x.set(100, Check.LAST_TIME + 1, 0));
        Check.refused("timer(-1, -1)", x -> x.timer(-1, -1));
        Check.refused("timer(100, 4)", x -> x.timer(100, 4));
    }

    /** No call with numbers in range, least and greatest, throws IllegalArgumentException. */
    private static void inRangeNothingIsThrown() {
        for (State state : State.values()) {
            answers("set(0, 0, least)", state, x -> x.set(0, 0, Integer.MIN_VALUE));
            answers("set(99, 2^46, most)", state, x -> x.set(99, Check.LAST_TIME, Integer.MAX_VALUE));
            answers("least()", state, TimerWheels::least);
            answers("go(0)", state, x -> x.go(0));
            for (int what = 0; what <= 3; what++) {
                int asked = what;
                answers("timer(0, " + what + ")", state, x -> x.timer(0, asked));
                answers("timer(99, " + what + ")", state, x -> x.timer(99, asked));
            }
            for (int what = 0; what <= 2; what++) {
                int asked = what;
                answers("count(" + what + ")", state, x -> x.count(asked));
            }
        }
    }

    private static void answers(String what, State state, Check.Calls call) {
        Check.same(what + " in state " + state, Check.thrownBy(Check.made(state), call), "nothing");
    }

    private static void manyCallsThatThrow() {
        for (State state : State.values()) {
            Check.changesNothing("many calls that throw", state, x -> {
                for (int round = 0; round < 8; round++) {
                    callWhatThrows(x);
                }
            });
        }
    }

    /** A run with a call that throws behind each of its calls answers as it does without them. */
    private static void aRunGoesOnAsWithoutThem() {
        TimerWheels plain = new TimerWheels();
        TimerWheels disturbed = new TimerWheels();
        for (int step = 0; step < 40; step++) {
            callWhatThrows(disturbed);
            int j = step * 37 % 100;
            long t = step * 13 % 29;
            Check.same("set", disturbed.set(j, t, step % 3), plain.set(j, t, step % 3));
            Check.same("go(" + step % 2 + ")", disturbed.go(step % 2), plain.go(step % 2));
            Check.same("least()", disturbed.least(), plain.least());
        }
        for (Look look : Look.values()) {
            if (look == Look.COUNTS || look == Look.WHICH_ARE_THERE_OR_DUE) {
                Check.same(look.toString(), look.at(disturbed), look.at(plain));
            }
        }
    }

    /** Five calls that throw in every state. */
    private static void callWhatThrows(TimerWheels x) {
        Check.thrownBy(x, y -> y.set(0, Check.LAST_TIME + 1, 3));
        Check.thrownBy(x, y -> y.drop(100));
        Check.thrownBy(x, y -> y.go(Check.LONGEST_GO + 1));
        Check.thrownBy(x, y -> y.timer(0, 4));
        Check.thrownBy(x, y -> y.count(3));
    }
}
