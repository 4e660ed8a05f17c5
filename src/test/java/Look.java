/**
 * What can be seen of an object, in parts: the whole takes over 400 of the 512 calls that an object
 * is used for. Those that keep the object as it is can be taken twice, before a call and after it.
 */
enum Look {
    COUNTS(true) {
        @Override
        String at(TimerWheels x) {
            return x.count(0) + " " + x.count(1) + " " + x.count(2) + " " + x.least();
        }
    },
    WHICH_ARE_THERE_OR_DUE(true) {
        @Override
        String at(TimerWheels x) {
            return ofAllTimers(x, 0);
        }
    },
    TIMES(true) {
        @Override
        String at(TimerWheels x) {
            return ofAllTimers(x, 1);
        }
    },
    PRIORITIES(true) {
        @Override
        String at(TimerWheels x) {
            return ofAllTimers(x, 2);
        }
    },
    AGES(true) {
        @Override
        String at(TimerWheels x) {
            return ofAllTimers(x, 3);
        }
    },
    NEXT_AGE(false) {
        @Override
        String at(TimerWheels x) {
            return "" + x.set(0, 0, 0);
        }
    },
    GO(false) {
        @Override
        String at(TimerWheels x) {
            return answer(x, () -> x.go(0)) + answer(x, () -> x.go(1)) + answer(x, () -> x.go(40));
        }
    },
    DROPS(false) {
        @Override
        String at(TimerWheels x) {
            StringBuilder seen = new StringBuilder();
            for (int j = 0; j <= 99; j++) {
                int timer = j;
                seen.append(answer(x, () -> x.drop(timer)));
            }
            return seen.toString();
        }
    },
    TAKES_AND_SKIPS(false) {
        @Override
        String at(TimerWheels x) {
            StringBuilder seen = new StringBuilder();
            for (int call = 0; call < 150; call++) {
                String taken = answer(x, x::take);
                seen.append(taken.equals(NONE) ? "skip " + answer(x, x::skip) : taken);
            }
            return seen.toString();
        }
    };

    private static final String NONE = "java.util.NoSuchElementException ";

    final boolean keeps;

    Look(boolean keeps) {
        this.keeps = keeps;
    }

    abstract String at(TimerWheels x);

    private interface Call {
        long answer();
    }

    private static String answer(TimerWheels x, Call call) {
        long[] got = new long[1];
        String thrown = Check.thrownBy(x, y -> got[0] = call.answer());
        return thrown.equals("nothing") ? got[0] + " " : thrown + " ";
    }

    private static String ofAllTimers(TimerWheels x, int what) {
        StringBuilder seen = new StringBuilder();
        for (int j = 0; j <= 99; j++) {
            seen.append(x.timer(j, what)).append(' ');
        }
        return seen.toString();
    }
}
