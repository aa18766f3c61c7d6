/**
 * Ticks: the first one, one in which nothing runs, the begin of a period and the tick before it, work that is just
 * done and work that just is not, and an object's 512th call. Above each test stands the sentence of the document
 * that it holds.
 */
public final class TickEdgeTest {
    public static void main(String[] args) {
        timeIsNoughtAtFirst();
        nothingRuns();
        taskBeginsNow();
        taskBeginsEachPeriodLater();
        workThatIsLeftIsMissed();
        workThatIsDoneIsNotMissed();
        workOfWhichNothingRanIsMissed();
        whatIsLeftIsDropped();
        costOfAWholePeriodIsNotMissed();
        topHalfGoesFirst();
        topHalfNeedsNoUnit();
        handlerGoesBeforeBaseTasks();
        highestOfTheReadySources();
        highestBaseTaskWithWork();
        handledWhenThatWasAllOfIt();
        delayIsNoughtWithoutOne();
        greatestDelayOnlyGrows();
        nextEventBeginsAnew();
        ticksAreOneByOne();
        lastOfTheCallsIsRight();
        Check.end();
    }

    /** "TIME is a number of ticks, 0 at first; tick t is the one from time t to t + 1". */
    private static void timeIsNoughtAtFirst() {
        BudgetKernel kernel = new BudgetKernel();
        Check.same("at first", kernel.time(), 0);
        kernel.source(0, 0, 1, 1, 1, 500, 0);
        kernel.base(0, 100, 1, 0);
        kernel.event(0);
        Check.same("no other call takes time", kernel.time(), 0);
        Check.ticks("tick 0", kernel, 20);
        Check.same("time 1", kernel.time(), 1);
        Check.same("tick 0 is from 0 to 1", kernel.used(0, false, 0, 1), 1);
    }

    /** "otherwise nothing"; "what ran: 0 nothing". */
    private static void nothingRuns() {
        BudgetKernel kernel = new BudgetKernel();
        Check.ticks("no source and no task", kernel, 0);
        kernel.source(0, 3, 1, 500, 1, 500, 0);
        Check.ticks("no event", kernel, 0);
        kernel.base(0, 100, 1, 0);
        Check.ticks("its work is done after one tick", kernel, 30, 0);
        Check.same("time goes on", kernel.time(), 4);
    }

    /** "that begins now": with the tick of the time at which it was told, and not before it. */
    private static void taskBeginsNow() {
        BudgetKernel kernel = new BudgetKernel();
        kernel.base(0, 10, 2, 0);
        Check.same("no work before tick 0", kernel.task(0, 0), 0);
        Check.ticks("tick 0", kernel, 30);
        Check.same("work left", kernel.task(0, 0), 1);
        kernel.ticks(2);
        kernel.base(1, 10, 2, 1);
        Check.same("no work before tick 3", kernel.task(1, 0), 0);
        Check.ticks("tick 3", kernel, 31, 31, 0);
    }

    /** "at a task's begin and each period later": not a tick earlier, and counted from its own begin. */
    private static void taskBeginsEachPeriodLater() {
        BudgetKernel kernel = new BudgetKernel();
        kernel.ticks(3);
        kernel.base(4, 5, 1, 0);
        Check.ticks("at 3, 8 and 13", kernel, 34, 0, 0, 0, 0, 34, 0, 0, 0, 0, 34, 0);
        Check.same("its work was done", kernel.task(4, 2), 3);
        Check.same("none was missed", kernel.task(4, 1), 0);
    }

    /** A base task 0 of cost 6 whose bound is its period of 10, and as many ticks of top halves before it. */
    private static BudgetKernel afterTops(int tops) {
        BudgetKernel kernel = new BudgetKernel();
        kernel.source(0, 1, 1, 2000, 1, 500, 0);
        Check.isTrue("admitted", kernel.base(0, 10, 6, 0));
        for (int i = 0; i < tops; i++) {
            kernel.event(0);
        }
        Check.same("no tick without work", kernel.ticks(10), 10);
        return kernel;
    }

    private static void task(String what, BudgetKernel kernel, int left, int missed, int done) {
        Check.same(what + ": left", kernel.task(0, 0), left);
        Check.same(what + ": missed", kernel.task(0, 1), missed);
        Check.same(what + ": done", kernel.task(0, 2), done);
    }

    /** "if something of its work is left, it MISSED": one tick is, and it is seen when the period begins. */
    private static void workThatIsLeftIsMissed() {
        BudgetKernel kernel = afterTops(4);
        task("before the next period", kernel, 1, 0, 0);
        Check.ticks("the next period", kernel, 30);
        task("in the next period", kernel, 5, 1, 0);
    }

    /** "if something of its work is left": nothing is, though it was done only in the last tick. */
    private static void workThatIsDoneIsNotMissed() {
        BudgetKernel kernel = afterTops(3);
        task("before the next period", kernel, 0, 0, 1);
        Check.ticks("the next period", kernel, 30);
        task("in the next period", kernel, 5, 0, 1);
    }

    /** "if something of its work is left, it MISSED": all of it is, twice. */
    private static void workOfWhichNothingRanIsMissed() {
        BudgetKernel kernel = afterTops(21);
        task("before the next period", kernel, 6, 0, 0);
        kernel.ticks(10);
        task("at 20", kernel, 6, 1, 0);
        kernel.tick();
        task("at 21", kernel, 6, 2, 0);
    }

    /** "and that is dropped; its work is its cost". */
    private static void whatIsLeftIsDropped() {
        BudgetKernel kernel = afterTops(4);
        Check.ticks("six ticks, not seven", kernel, 30, 30, 30, 30, 30, 30, 0, 0, 0, 0);
        task("done once", kernel, 0, 1, 1);
    }

    /** "2 how often its work was done": with a cost of the whole period, each time, and none is missed. */
    private static void costOfAWholePeriodIsNotMissed() {
        BudgetKernel kernel = new BudgetKernel();
        Check.isTrue("admitted", kernel.base(0, 5, 5, 0));
        kernel.ticks(4);
        task("a tick before", kernel, 1, 0, 0);
        kernel.tick();
        task("done", kernel, 0, 0, 1);
        Check.same("all ticks", kernel.ticks(495), 495);
        task("a hundred times", kernel, 0, 0, 100);
    }

    /** "One of these runs: the first top half that is open ...; otherwise, of the sources that are ready": top halves first. */
    private static void topHalfGoesFirst() {
        BudgetKernel kernel = new BudgetKernel();
        kernel.source(0, 0, 2, 1, 9, 500, 31);
        kernel.source(1, 1, 1, 1, 9, 500, 0);
        kernel.event(0);
        Check.ticks("the handler of the highest", kernel, 20);
        kernel.event(1);
        Check.ticks("the top half of the lowest", kernel, 11, 20, 21, 0);
    }

    /** "each source has a short top half, charged at once": without a unit it runs, and spends none. */
    private static void topHalfNeedsNoUnit() {
        BudgetKernel kernel = new BudgetKernel();
        kernel.source(0, 1, 1, 1, 1, 500, 0);
        kernel.event(0);
        Check.ticks("top half and handler", kernel, 10, 20);
        Check.same("no unit is left", kernel.about(0, 6), 0);
        kernel.event(0);
        kernel.event(0);
        Check.ticks("two top halves", kernel, 10, 10, 0);
        Check.same("one piece of one unit", kernel.about(0, 9), 1);
    }

    /** "otherwise the base task with work left of the highest priority": only when no source is ready. */
    private static void handlerGoesBeforeBaseTasks() {
        BudgetKernel kernel = new BudgetKernel();
        kernel.base(0, 2000, 3, 31);
        kernel.source(0, 0, 2, 500, 2, 500, 0);
        Check.ticks("the task", kernel, 30);
        kernel.event(0);
        Check.ticks("the lowest source", kernel, 20, 20, 30, 30, 0);
    }

    /** "of the sources that are ready, the one with the highest priority": higher ones that are not ready are not. */
    private static void highestOfTheReadySources() {
        BudgetKernel kernel = new BudgetKernel();
        kernel.source(0, 0, 1, 1, 9, 500, 3);
        kernel.source(1, 0, 1, 1, 9, 500, 5);
        kernel.source(2, 0, 1, 1, 1, 500, 6);
        kernel.source(3, 0, 1, 1, 9, 500, 4);
        kernel.event(0);
        Check.ticks("alone", kernel, 20);
        kernel.event(0);
        kernel.event(3);
        kernel.event(2);
        kernel.event(2);
        kernel.event(1);
        Check.ticks("the highest has one unit", kernel, 22, 21, 23, 20, 0);
        Check.same("one event of it stays", kernel.about(2, 3), 1);
    }

    /** "the base task with work left of the highest priority": higher ones whose work is done are not. */
    private static void highestBaseTaskWithWork() {
        BudgetKernel kernel = new BudgetKernel();
        kernel.base(0, 100, 2, 3);
        kernel.base(1, 4, 1, 4);
        kernel.base(2, 100, 1, 2);
        Check.ticks("by priority", kernel, 31, 30, 30, 32, 31, 0, 0, 0, 31);
    }

    /** "which is handled when that was all of it: at t + 1; its DELAY is t + 1 less its time, the event goes from the queue". */
    private static void handledWhenThatWasAllOfIt() {
        BudgetKernel kernel = new BudgetKernel();
        kernel.source(0, 0, 2, 1, 9, 500, 0);
        kernel.ticks(5);
        kernel.event(0);
        kernel.tick();
        Check.about("a tick before", kernel, 0, 1, 0, 0, 1, 0, 0, 8, 1, 505, 1, 0, 1, 5);
        kernel.tick();
        Check.about("that was all of it", kernel, 0, 1, 1, 0, 0, 0, 0, 7, 1, 505, 2, 2, 0, -1);
        BudgetKernel once = new BudgetKernel();
        once.source(0, 0, 1, 1, 9, 500, 0);
        once.event(0);
        once.tick();
        Check.same("the shortest delay", once.about(0, 10), 1);
    }

    /** "10 the greatest delay (0 without one)". */
    private static void delayIsNoughtWithoutOne() {
        BudgetKernel kernel = new BudgetKernel();
        kernel.source(0, 0, 3, 1, 2, 500, 0);
        Check.same("no event", kernel.about(0, 10), 0);
        kernel.event(0);
        kernel.ticks(400);
        Check.same("one that is not handled", kernel.about(0, 10), 0);
    }

    /** "10 the greatest delay": a lesser one and one alike change nothing, a greater one does. */
    private static void greatestDelayOnlyGrows() {
        BudgetKernel kernel = new BudgetKernel();
        kernel.source(0, 0, 1, 1, 30, 500, 0);
        int[] events = {2, 1, 2, 3};
        int[] due = {2, 2, 2, 3};
        for (int i = 0; i < events.length; i++) {
            for (int j = 0; j < events[i]; j++) {
                kernel.event(0);
            }
            kernel.ticks(10);
            Check.same("after " + events[i] + " at once", kernel.about(0, 10), due[i]);
        }
    }

    /** "11 ticks of its first event that are done": none of the next when one is handled. */
    private static void nextEventBeginsAnew() {
        BudgetKernel kernel = new BudgetKernel();
        kernel.source(0, 0, 3, 1, 30, 500, 0);
        Check.same("no event", kernel.about(0, 11), 0);
        kernel.event(0);
        kernel.event(0);
        int[] due = {1, 2, 0, 1, 2, 0, 0};
        for (int i = 0; i < due.length; i++) {
            kernel.tick();
            Check.same("done after tick " + i, kernel.about(0, 11), due[i]);
        }
        Check.same("both are handled", kernel.about(0, 1), 2);
    }

    /** "So many ticks, one by one: in how many something ran". */
    private static void ticksAreOneByOne() {
        BudgetKernel kernel = new BudgetKernel();
        Check.same("nothing ran", kernel.ticks(500), 0);
        kernel.source(0, 1, 2, 2000, 1, 400, 0);
        Check.isTrue("admitted", kernel.base(0, 50, 2, 0));
        kernel.event(0);
        Check.same("a top half, a handler, and a task", kernel.ticks(4), 4);
        Check.same("a task at each period, and a handler", kernel.ticks(496), 19);
        Check.same("handled in between", kernel.about(0, 1), 1);
        Check.same("its delay", kernel.about(0, 10), 401);
    }

    /** "An object is used for at most 512 calls": up to the last of them it answers rightly, as late as can be. */
    private static void lastOfTheCallsIsRight() {
        BudgetKernel kernel = new BudgetKernel();
        kernel.source(0, 1, 1, 2000, 1, 500, 0);
        kernel.base(0, 1000, 3, 0);
        int ran = 0;
        for (int i = 0; i < 500; i++) {
            ran += kernel.ticks(500);
        }
        Check.same("three ticks of each thousand", ran, 750);
        kernel.event(0);
        Check.ticks("at 250000", kernel, 10, 20, 30);
        Check.same("used", kernel.used(0, true, 249003, 250003), 2);
        Check.same("given back at", kernel.about(0, 8), 250500);
        Check.same("done", kernel.task(0, 2), 250);
        Check.badIndex("more than 1000 ticks ago", () -> kernel.used(0, true, 249002, 250003));
        Check.same("call 511", kernel.about(0, 10), 2);
        Check.same("call 512", kernel.time(), 250003);
    }
}
