/**
 * The spans of used(): empty ones, the first and the last tick, a thousand ticks ago and one more. Above each test
 * stands the sentence of the document that it holds.
 */
public final class UsedEdgeTest {
    public static void main(String[] args) {
        nothingIsThereYet();
        fromIsNotBelowNought();
        fromIsNotAboveTo();
        toIsNotAboveTheTime();
        fromIsInAndToIsOut();
        thousandTicksAgo();
        moreThanAThousandTicksAgo();
        ticksWrapAround();
        handlerOrTopHalfToo();
        onlyThisSource();
        farNumbers();
        Check.end();
    }

    /** A source 0 whose handler runs in each of the first ticks. */
    private static BudgetKernel busyUpTo(int time) {
        BudgetKernel kernel = new BudgetKernel();
        kernel.source(0, 0, 1, 1, 30, 500, 0);
        for (int i = 0; i < time; i++) {
            kernel.event(0);
            Check.ticks("busy", kernel, 20);
        }
        return kernel;
    }

    /** "0 <= from <= to <= the time": at time 0 there is but one span. */
    private static void nothingIsThereYet() {
        BudgetKernel kernel = busyUpTo(0);
        Check.same("no ticks", kernel.used(0, true, 0, 0), 0);
        Check.badIndex("tick 0", () -> kernel.used(0, true, 0, 1));
        Check.badIndex("tick -1", () -> kernel.used(0, true, -1, 0));
        Check.badIndex("none, later", () -> kernel.used(0, true, 1, 1));
    }

    /** "IndexOutOfBoundsException when they are not 0 <= from". */
    private static void fromIsNotBelowNought() {
        BudgetKernel kernel = busyUpTo(5);
        Check.same("from 0", kernel.used(0, false, 0, 5), 5);
        Check.badIndex("from -1", () -> kernel.used(0, false, -1, 5));
        Check.badIndex("from -1 to -1", () -> kernel.used(0, false, -1, -1));
    }

    /** "from <= to". */
    private static void fromIsNotAboveTo() {
        BudgetKernel kernel = busyUpTo(5);
        for (int to = 0; to < 5; to++) {
            int t = to;
            Check.same("from " + to + " to " + to, kernel.used(0, false, t, t), 0);
            Check.badIndex("from " + (to + 1) + " to " + to, () -> kernel.used(0, false, t + 1, t));
        }
    }

    /** "to <= the time". */
    private static void toIsNotAboveTheTime() {
        BudgetKernel kernel = busyUpTo(5);
        Check.same("to the time", kernel.used(0, false, 4, 5), 1);
        Check.same("none, at the time", kernel.used(0, false, 5, 5), 0);
        Check.badIndex("one more", () -> kernel.used(0, false, 4, 6));
        Check.badIndex("one more, from the time", () -> kernel.used(0, false, 5, 6));
        Check.badIndex("none, later", () -> kernel.used(0, false, 6, 6));
    }

    /** "In how many of the ticks from .. to - 1". */
    private static void fromIsInAndToIsOut() {
        BudgetKernel kernel = new BudgetKernel();
        kernel.source(0, 0, 1, 1, 30, 500, 0);
        kernel.ticks(3);
        kernel.event(0);
        Check.ticks("tick 3 alone", kernel, 20, 0, 0, 0);
        Check.same("before it", kernel.used(0, false, 0, 3), 0);
        Check.same("up to it", kernel.used(0, false, 0, 4), 1);
        Check.same("from it", kernel.used(0, false, 3, 7), 1);
        Check.same("it alone", kernel.used(0, false, 3, 4), 1);
        Check.same("behind it", kernel.used(0, false, 4, 7), 0);
    }

    /** "or from is more than 1000 ticks ago": just 1000 are not. */
    private static void thousandTicksAgo() {
        BudgetKernel kernel = busyUpTo(3);
        kernel.ticks(497);
        kernel.ticks(500);
        Check.same("at 1000, from 0", kernel.used(0, false, 0, 1000), 3);
        kernel.tick();
        Check.same("at 1001, from 1", kernel.used(0, false, 1, 1001), 2);
        Check.same("its first tick alone", kernel.used(0, false, 1, 2), 1);
        Check.same("and none of it", kernel.used(0, false, 1, 1), 0);
    }

    /** "or from is more than 1000 ticks ago": 1001 are, whatever to is. */
    private static void moreThanAThousandTicksAgo() {
        BudgetKernel kernel = busyUpTo(3);
        kernel.ticks(498);
        kernel.ticks(500);
        Check.same("at 1001", kernel.time(), 1001);
        for (int to : new int[] {0, 1, 500, 1000, 1001}) {
            Check.badIndex("from 0 to " + to, () -> kernel.used(0, false, 0, to));
        }
        kernel.ticks(500);
        Check.badIndex("from 500 at 1501", () -> kernel.used(0, false, 500, 1501));
        Check.same("from 501 at 1501", kernel.used(0, false, 501, 1501), 0);
    }

    /** Ticks of the last thousand are told apart from those of the same place a thousand before. */
    private static void ticksWrapAround() {
        BudgetKernel kernel = busyUpTo(3);
        kernel.ticks(495);
        kernel.ticks(500);
        for (int i = 0; i < 4; i++) {
            kernel.event(0);
        }
        Check.ticks("998 to 1001", kernel, 20, 20, 20, 20);
        Check.same("at 1002", kernel.time(), 1002);
        Check.same("2 and 998 to 1001", kernel.used(0, false, 2, 1002), 5);
        Check.same("2 alone", kernel.used(0, false, 2, 3), 1);
        Check.same("3 to 997", kernel.used(0, false, 3, 998), 0);
        Check.same("over the end", kernel.used(0, false, 999, 1001), 2);
        kernel.ticks(2);
        Check.same("nothing ran in 1002 and 1003", kernel.used(0, false, 1002, 1004), 0);
        kernel.ticks(500);
        kernel.ticks(496);
        Check.same("1000 and 1001 at 2000", kernel.used(0, false, 1000, 2000), 2);
    }

    /** "a source's handler (or its top half, too) ran". */
    private static void handlerOrTopHalfToo() {
        BudgetKernel kernel = new BudgetKernel();
        kernel.source(0, 2, 1, 1, 1, 500, 0);
        kernel.event(0);
        Check.ticks("both", kernel, 10, 10, 20);
        Check.same("the handler", kernel.used(0, false, 0, 3), 1);
        Check.same("the top half, too", kernel.used(0, true, 0, 3), 3);
        Check.same("no handler", kernel.used(0, false, 0, 2), 0);
        Check.same("the top half alone", kernel.used(0, true, 0, 2), 2);
        Check.same("the handler with tops", kernel.used(0, true, 2, 3), 1);
    }

    /** "a source's": not another one's, nor a base task's of the same number. */
    private static void onlyThisSource() {
        BudgetKernel kernel = new BudgetKernel();
        kernel.source(0, 1, 1, 500, 1, 500, 0);
        kernel.source(5, 1, 1, 500, 1, 500, 1);
        kernel.base(0, 100, 2, 0);
        kernel.base(5, 100, 2, 1);
        kernel.event(5);
        Check.ticks("of source 5 and the tasks", kernel, 15, 25, 35, 35, 30, 30, 0);
        Check.same("of source 5", kernel.used(5, true, 0, 7), 2);
        Check.same("of source 0", kernel.used(0, true, 0, 7), 0);
        Check.same("its handler", kernel.used(0, false, 0, 7), 0);
    }

    /** "they are not 0 <= from <= to <= the time": as far as an int goes. */
    private static void farNumbers() {
        BudgetKernel kernel = busyUpTo(5);
        int[] far = {Integer.MIN_VALUE, Integer.MIN_VALUE + 1, Integer.MAX_VALUE - 1, Integer.MAX_VALUE};
        for (int number : far) {
            Check.badIndex("from " + number, () -> kernel.used(0, false, number, 5));
            Check.badIndex("to " + number, () -> kernel.used(0, false, 0, number));
            for (int other : far) {
                Check.badIndex(number + " to " + other, () -> kernel.used(0, false, number, other));
            }
        }
    }
}
