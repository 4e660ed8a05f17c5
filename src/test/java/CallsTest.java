/** "An object is used for at most 512 calls after it has been made": all 512 answer as due. */
public final class CallsTest {
    private static final String WORDS = "An object is used for at most 512 calls after it has been made";
    private static final int CALLS = 512;

    public static void main(String[] args) {
        Check.sentence(WORDS, CallsTest::allAreSet);
        Check.sentence(WORDS, CallsTest::almostAllAreGo);
        Check.sentence(WORDS, CallsTest::setAndTakeByTurns);
        Check.sentence(WORDS, CallsTest::setAndDropByTurns);
        Check.sentence(WORDS, CallsTest::setSkipAndTakeByTurns);
        Check.sentence(WORDS, CallsTest::eachCallAsTheLast);
        Check.sentence(WORDS, CallsTest::callsThatThrowAsTheLast);
        Check.sentence(WORDS, CallsTest::behindCallsThatThrow);
        Check.end("At most 512 calls");
    }

    private static void allAreSet() {
        TimerWheels x = new TimerWheels();
        for (int call = 0; call < CALLS; call++) {
            Check.same("set, call " + call, x.set(call % 100, call, 0), call);
        }
    }

    private static void almostAllAreGo() {
        TimerWheels x = new TimerWheels();
        x.set(3, 500, 0);
        for (int call = 1; call < CALLS - 1; call++) {
            Check.same("go(1), call " + call, x.go(1), call < 500 ? 0 : 1);
        }
        Check.same("count(0)", x.count(0), CALLS - 2);
    }

    private static void setAndTakeByTurns() {
        TimerWheels x = new TimerWheels();
        for (int turn = 0; turn < CALLS / 2; turn++) {
            Check.same("set, turn " + turn, x.set(turn % 100, 0, turn), turn);
            Check.same("take(), turn " + turn, x.take(), turn % 100);
        }
    }

    private static void setAndDropByTurns() {
        TimerWheels x = new TimerWheels();
        for (int turn = 0; turn < CALLS / 2; turn++) {
            Check.same("set, turn " + turn, x.set(turn % 100, turn * 3L, 0), turn);
            Check.same("drop, turn " + turn, x.drop(turn % 100), turn * 3L);
        }
    }

    private static void setSkipAndTakeByTurns() {
        TimerWheels x = new TimerWheels();
        for (int turn = 0; turn < CALLS / 3; turn++) {
            x.set(turn % 100, (turn + 1L) << 38, 0);
            Check.same("skip(), turn " + turn, x.skip(), 1);
            Check.same("take(), turn " + turn, x.take(), turn % 100);
        }
        Check.same("count(0)", x.count(0), (CALLS / 3L) << 38);
    }

    private static void eachCallAsTheLast() {
        Check.same("set, the last", used(0).set(3, 9, 9), CALLS - 2);
        Check.same("drop(10), the last", used(0).drop(10), 410);
        Check.same("take(), the last", used(411).take(), 10);
        Check.same("least(), the last", used(410).least(), 411);
        Check.same("go(99), the last", used(410).go(99), 100);
        Check.same("skip(), the last", used(410).skip(), 2);
        Check.same("timer(10, 0), the last", used(410).timer(10, 0), 2);
        Check.same("timer(10, 1), the last", used(410).timer(10, 1), 410);
        Check.same("timer(10, 2), the last", used(410).timer(10, 2), -410);
        Check.same("timer(10, 3), the last", used(410).timer(10, 3), 410);
        Check.same("count(0), the last", used(410).count(0), 410);
        Check.same("count(1), the last", used(410).count(1), 100);
        Check.same("count(2), the last", used(410).count(2), 1);
    }

    private static void callsThatThrowAsTheLast() {
        String outOfRange = IllegalArgumentException.class.getName();
        Check.same("set throws", Check.thrownBy(used(0), x -> x.set(100, 0, 0)), outOfRange);
        Check.same("drop throws", Check.thrownBy(used(0), x -> x.drop(-1)), outOfRange);
        Check.same("go throws", Check.thrownBy(used(0), x -> x.go(-1)), outOfRange);
        Check.same("timer throws", Check.thrownBy(used(0), x -> x.timer(0, 4)), outOfRange);
        Check.same("count throws", Check.thrownBy(used(0), x -> x.count(3)), outOfRange);
        Check.throwsNoSuchElement("take()", used(409), TimerWheels::take);
        Check.throwsNoSuchElement("skip()", used(509), TimerWheels::skip);
    }

    /** All 100 are there, with the TIMES 410 .. 509, and one call is left. */
    private static TimerWheels used(long clock) {
        TimerWheels x = new TimerWheels();
        for (int call = 0; call < CALLS - 2; call++) {
            x.set(call % 100, call, -call);
        }
        x.go(clock);
        return x;
    }

    private static void behindCallsThatThrow() {
        TimerWheels x = new TimerWheels();
        for (int call = 0; call < CALLS - 1; call++) {
            Check.throwsNoSuchElement("take()", x, TimerWheels::take);
        }
        Check.same("set(7, 7, 7), the last", x.set(7, 7, 7), 0);
    }
}
