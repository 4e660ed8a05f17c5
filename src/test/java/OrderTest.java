import java.util.ArrayList;
import java.util.Collections;
import java.util.List;
import java.util.Random;

/** "ORDER" of "Terms", as take keeps it. */
public final class OrderTest {
    private static final String TIME = "ORDER: the least TIME";
    private static final String PRIORITY = "then the greatest PRIORITY";
    private static final String AGE = "then the least AGE.";

    public static void main(String[] args) {
        Check.sentence(TIME, OrderTest::everyTimeBeforeEveryLaterOne);
        Check.sentence(TIME, OrderTest::timeGoesBeforePriorityAndAge);
        Check.sentence(TIME, OrderTest::timesOneApartAtBothEnds);
        Check.sentence(TIME, OrderTest::aHundredTimes);
        Check.sentence(PRIORITY, OrderTest::everyPriorityBeforeEveryLesserOne);
        Check.sentence(PRIORITY, OrderTest::priorityGoesBeforeAge);
        Check.sentence(PRIORITY, OrderTest::aHundredPriorities);
        Check.sentence(AGE, OrderTest::theOldestComesFirstNotTheLeastNumber);
        Check.sentence(AGE, OrderTest::aHundredAges);
        Check.sentence(AGE, OrderTest::oneSetAgainIsTheYoungest);
        Check.sentence(AGE, OrderTest::agesBeyondAHundred);
        Check.end("ORDER");
    }

    private static void everyTimeBeforeEveryLaterOne() {
        for (long early : Numbers.TIMES) {
            for (long late : Numbers.TIMES) {
                if (early < late) {
                    takesOneThenTwo(early, 0, late, 0);
                }
            }
        }
    }

    private static void timeGoesBeforePriorityAndAge() {
        takesOneThenTwo(10, -9, 11, 9);
        takesOneThenTwo(0, Integer.MIN_VALUE, 1, Integer.MAX_VALUE);
        takesOneThenTwo(5, 0, 5 + (1L << 32), 1);
    }

    private static void timesOneApartAtBothEnds() {
        takesOneThenTwo(0, 0, 1, 1);
        takesOneThenTwo(Check.LAST_TIME - 1, 0, Check.LAST_TIME, 1);
        takesOneThenTwo(0, 0, Check.LAST_TIME, 1);
    }

    private static void aHundredTimes() {
        List<Integer> order = shuffled();
        TimerWheels x = new TimerWheels();
        for (int j = 0; j <= 99; j++) {
            x.set(j, order.indexOf(j) * (1L << 39), j);
        }
        Check.goToTheEnd(x);
        takesAll(x, order);
    }

    private static void everyPriorityBeforeEveryLesserOne() {
        for (int greater : Numbers.PRIORITIES_DOWN) {
            for (int lesser : Numbers.PRIORITIES_DOWN) {
                if (greater > lesser) {
                    takesOneThenTwo(7, greater, 7, lesser);
                }
            }
        }
    }

    private static void priorityGoesBeforeAge() {
        TimerWheels x = new TimerWheels();
        x.set(1, 10, -1);
        x.set(2, 10, 5);
        x.set(3, 10, 0);
        x.set(4, 10, 6);
        x.go(10);
        Check.takes(x, 4, 2, 3, 1);
    }

    private static void aHundredPriorities() {
        List<Integer> order = shuffled();
        TimerWheels x = new TimerWheels();
        for (int j = 0; j <= 99; j++) {
            x.set(j, 3, 50 - order.indexOf(j));
        }
        x.go(3);
        takesAll(x, order);
    }

    private static void theOldestComesFirstNotTheLeastNumber() {
        TimerWheels x = new TimerWheels();
        x.set(9, 10, 2);
        x.set(1, 10, 2);
        x.set(5, 10, 2);
        x.go(10);
        Check.takes(x, 9, 1, 5);
    }

    private static void aHundredAges() {
        List<Integer> order = shuffled();
        TimerWheels x = new TimerWheels();
        for (int j : order) {
            x.set(j, 3, 3);
        }
        x.skip();
        takesAll(x, order);
    }

    private static void oneSetAgainIsTheYoungest() {
        TimerWheels x = new TimerWheels();
        x.set(1, 10, 2);
        x.set(2, 10, 2);
        x.set(3, 10, 2);
        x.set(1, 10, 2);
        x.go(10);
        x.set(2, 10, 2);
        Check.takes(x, 3, 1, 2);
    }

    /** At the end of each run the AGES are the last hundred, across 128, 256 or 384. */
    private static void agesBeyondAHundred() {
        for (int sets : new int[] {101, 170, 199, 300, 400}) {
            List<Integer> order = shuffled();
            TimerWheels x = new TimerWheels();
            for (int call = 0; call < sets; call++) {
                x.set(order.get(call % 100), 3, 3);
            }
            Collections.rotate(order, -(sets % 100));
            x.go(3);
            takesAll(x, order);
        }
    }

    /** Whichever of the two is set first, TIMER 1 is taken before TIMER 2. */
    private static void takesOneThenTwo(long time1, int priority1, long time2, int priority2) {
        TimerWheels oneFirst = new TimerWheels();
        oneFirst.set(1, time1, priority1);
        oneFirst.set(2, time2, priority2);
        TimerWheels twoFirst = new TimerWheels();
        twoFirst.set(2, time2, priority2);
        twoFirst.set(1, time1, priority1);
        Check.goToTheEnd(oneFirst);
        Check.goToTheEnd(twoFirst);
        Check.takes(oneFirst, 1, 2);
        Check.takes(twoFirst, 1, 2);
    }

    private static void takesAll(TimerWheels x, List<Integer> order) {
        Check.takes(x, order.stream().mapToInt(j -> j).toArray());
    }

    /** The numbers 0 .. 99, mixed in the same way each time. */
    private static List<Integer> shuffled() {
        List<Integer> numbers = new ArrayList<>();
        for (int j = 0; j <= 99; j++) {
            numbers.add(j);
        }
        Collections.shuffle(numbers, new Random(46));
        return numbers;
    }
}
