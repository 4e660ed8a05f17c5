import java.util.NoSuchElementException;

/** What the tests share: comparing answers, and looking at what a call throws and changes. */
final class Check {
    static final long LAST_TIME = 1L << 46;
    static final long LONGEST_GO = 1L << 44;

    private static int wrong = 0;

    private Check() {
    }

    /** A call, or a run of calls, whose answer does not matter. */
    interface Calls {
        void on(TimerWheels x);
    }

    static void same(String what, long got, long want) {
        if (got != want) {
            tellWrong(what + " answered " + got + ", due is " + want);
        }
    }

    static void same(String what, String got, String want) {
        if (!got.equals(want)) {
            tellWrong(what + ": got " + got + ", due is " + want);
        }
    }

    /** The call, behind the run, throws IllegalArgumentException and changes nothing. */
    static void refused(String what, Calls run, Calls call) {
        throwsAndChangesNothing(what, run, call, IllegalArgumentException.class);
    }

    /** The call, behind the run, throws NoSuchElementException and changes nothing. */
    static void findsNone(String what, Calls run, Calls call) {
        throwsAndChangesNothing(what, run, call, NoSuchElementException.class);
    }

    /** The call, behind the run, answers, and all that can be seen is as it was. */
    static void changesNothing(String what, Calls run, Calls call) {
        same(what + " changes nothing", state(run, call), state(run, x -> { }));
    }

    /** TIMER j is there with this, and DUE or not. */
    static void timerIs(TimerWheels x, int j, boolean due, long time, long priority, long age) {
        same("timer(" + j + ", 0)", x.timer(j, 0), due ? 2 : 1);
        same("timer(" + j + ", 1)", x.timer(j, 1), time);
        same("timer(" + j + ", 2)", x.timer(j, 2), priority);
        same("timer(" + j + ", 3)", x.timer(j, 3), age);
    }

    static void timerIsNotThere(TimerWheels x, int j) {
        for (int what = 0; what <= 3; what++) {
            same("timer(" + j + ", " + what + ")", x.timer(j, what), 0);
        }
    }

    static void counts(TimerWheels x, long clock, long timers, long due) {
        same("count(0)", x.count(0), clock);
        same("count(1)", x.count(1), timers);
        same("count(2)", x.count(2), due);
    }

    /** Takes the TIMERS named, in this order, and then there is none DUE. */
    static void takes(TimerWheels x, int... timers) {
        for (int j : timers) {
            same("take()", x.take(), j);
        }
        same("take() behind the last", thrownBy(x, TimerWheels::take), "NoSuchElementException");
    }

    /** The CLOCK can only be brought to 2^46 in steps of at most 2^44. */
    static void goToTheEnd(TimerWheels x) {
        for (int step = 0; step < 4; step++) {
            x.go(LONGEST_GO);
        }
    }

    static void end(String test) {
        System.out.println(test + (wrong == 0 ? ": all as due" : ": " + wrong + " not as due"));
        if (wrong != 0) {
            System.exit(1);
        }
    }

    private static void throwsAndChangesNothing(
            String what, Calls run, Calls call, Class<? extends RuntimeException> due) {
        TimerWheels x = new TimerWheels();
        run.on(x);
        same(what + " throws", thrownBy(x, call), due.getSimpleName());
        changesNothing(what, run, y -> thrownBy(y, call));
    }

    static String thrownBy(TimerWheels x, Calls call) {
        try {
            call.on(x);
        } catch (RuntimeException e) {
            return e.getClass().getSimpleName();
        }
        return "nothing";
    }

    /**
     * All that a new object shows behind the two runs. Two objects are compared, not one looked at
     * twice, because one look takes over 400 of the 512 calls that an object has.
     */
    private static String state(Calls first, Calls second) {
        TimerWheels x = new TimerWheels();
        first.on(x);
        second.on(x);
        StringBuilder seen = new StringBuilder();
        for (int what = 0; what <= 2; what++) {
            seen.append(x.count(what)).append(' ');
        }
        seen.append(x.least());
        for (int j = 0; j <= 99; j++) {
            for (int what = 0; what <= 3; what++) {
                seen.append(what == 0 ? '|' : ' ').append(x.timer(j, what));
            }
        }
        return seen.append("| next AGE ").append(x.set(0, 0, 0)).toString();
    }

    private static void tellWrong(String text) {
        wrong++;
        System.out.println(text);
    }
}
