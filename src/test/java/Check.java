import java.util.NoSuchElementException;

/** What the tests share: comparing answers, and looking at what a call throws and changes. */
final class Check {
    static final long LAST_TIME = 1L << 46;
    static final long LONGEST_GO = 1L << 44;

    private static int tests = 0;
    private static int wrong = 0;

    private Check() {
    }

    /** A call, or a run of calls, whose answer does not matter. */
    interface Calls {
        void on(TimerWheels x);
    }

    /**
     * A test of these words of the document. What it throws unasked is caught here, so that one
     * broken sentence does not keep the next ones from being tested.
     */
    static void sentence(String words, Runnable test) {
        int wrongBefore = wrong;
        try {
            test.run();
        } catch (RuntimeException e) {
            tellWrong("thrown unasked: " + e + " at " + e.getStackTrace()[0]);
        }
        tests++;
        if (wrong != wrongBefore) {
            System.out.println("    so this does not hold: " + words);
        }
    }

    static void end(String test) {
        String verdict = wrong == 0 ? "all as due" : wrong + " answers not as due";
        System.out.println(test + ": " + tests + " tests, " + verdict);
        if (wrong != 0 || tests == 0) {
            System.exit(1);
        }
    }

    static void same(String what, long got, long want) {
        if (got != want) {
            tellWrong(what + " answered " + got + ", due is " + want);
        }
    }

    static void same(String what, String got, String want) {
        if (!got.equals(want)) {
            tellWrong(what + ": got " + got + ", due is " + want);
        }
    }

    /** In every state the call throws IllegalArgumentException and changes nothing. */
    static void refused(String what, Calls call) {
        for (State state : State.values()) {
            refused(what, state, call);
        }
    }

    /** Behind the run the call throws IllegalArgumentException and changes nothing. */
    static void refused(String what, Calls run, Calls call) {
        throwsAndChangesNothing(what, run, call, IllegalArgumentException.class);
    }

    /** Behind the run the call throws NoSuchElementException and changes nothing. */
    static void findsNone(String what, Calls run, Calls call) {
        throwsAndChangesNothing(what, run, call, NoSuchElementException.class);
    }

    /** In every state the call answers and changes nothing. */
    static void changesNothing(String what, Calls call) {
        for (State state : State.values()) {
            changesNothing(what, state, call);
        }
    }

    /** Behind the run, all that the other calls show is the same before and after the call. */
    static void changesNothing(String what, Calls run, Calls call) {
        for (Look look : Look.values()) {
            if (look.keeps) {
                sameBeforeAndAfter(what, look, run, call);
            } else {
                sameWithAndWithout(what, look, run, call);
            }
        }
    }

    private static void sameBeforeAndAfter(String what, Look look, Calls run, Calls call) {
        TimerWheels x = made(run);
        String before = look.at(x);
        call.on(x);
        same(look + " behind " + what + " in state " + run, look.at(x), before);
    }

    private static void sameWithAndWithout(String what, Look look, Calls run, Calls call) {
        TimerWheels with = made(run);
        call.on(with);
        same(look + " behind " + what + " in state " + run, look.at(with), look.at(made(run)));
    }

    private static void throwsAndChangesNothing(
            String what, Calls run, Calls call, Class<? extends RuntimeException> due) {
        same(what + " in state " + run + " throws", thrownBy(made(run), call), due.getName());
        changesNothing(what, run, x -> thrownBy(x, call));
    }

    static TimerWheels made(Calls run) {
        TimerWheels x = new TimerWheels();
        run.on(x);
        return x;
    }

    static String thrownBy(TimerWheels x, Calls call) {
        try {
            call.on(x);
        } catch (RuntimeException e) {
            return e.getClass().getName();
        }
        return "nothing";
    }

    static void throwsNoSuchElement(String what, TimerWheels x, Calls call) {
        same(what + " throws", thrownBy(x, call), NoSuchElementException.class.getName());
    }

    /** TIMER j is there with this, and DUE or not. */
    static void timerIs(TimerWheels x, int j, boolean due, long time, long priority, long age) {
        same("timer(" + j + ", 0)", x.timer(j, 0), due ? 2 : 1);
        same("timer(" + j + ", 1)", x.timer(j, 1), time);
        same("timer(" + j + ", 2)", x.timer(j, 2), priority);
        same("timer(" + j + ", 3)", x.timer(j, 3), age);
    }

    static void timerIsNotThere(TimerWheels x, int j) {
        for (int what = 0; what <= 3; what++) {
            same("timer(" + j + ", " + what + ")", x.timer(j, what), 0);
        }
    }

    static void counts(TimerWheels x, long clock, long timers, long due) {
        same("count(0)", x.count(0), clock);
        same("count(1)", x.count(1), timers);
        same("count(2)", x.count(2), due);
    }

    /** Takes the TIMERS named, in this order, and then there is none DUE. */
    static void takes(TimerWheels x, int... timers) {
        for (int j : timers) {
            same("take()", x.take(), j);
        }
        throwsNoSuchElement("take() behind the last", x, TimerWheels::take);
    }

    /** The CLOCK can only be brought to 2^46 in steps of at most 2^44. */
    static void goToTheEnd(TimerWheels x) {
        for (int step = 0; step < 4; step++) {
            x.go(LONGEST_GO);
        }
    }

    /** Brings the CLOCK of a new object to any time in one step, however far. */
    static void skipTo(TimerWheels x, long time) {
        if (time > 0) {
            x.set(0, time, 0);
            x.skip();
            x.drop(0);
        }
    }

    private static void tellWrong(String text) {
        wrong++;
        System.out.println(text);
    }
}
