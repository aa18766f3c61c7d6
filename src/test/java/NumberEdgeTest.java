/**
 * The bounds of every number that a call takes: the last one that is within and the first one that is not, on both
 * sides. Above each test stands the sentence of the document that it holds.
 */
public final class NumberEdgeTest {
    private static final int[] FAR = {Integer.MIN_VALUE, Integer.MAX_VALUE};

    public static void main(String[] args) {
        sourcesAreNoughtToFive();
        topIsNoughtToThree();
        costIsOneToThirty();
        distanceIsOneToTwoThousand();
        budgetIsOneToThirty();
        periodIsOneToFiveHundred();
        priorityIsNoughtToThirtyOne();
        noTwoPrioritiesAreAlike();
        baseTasksAreNoughtToFive();
        taskPeriodIsOneToTwoThousand();
        taskCostIsOneToFiveHundred();
        taskPriorityIsNoughtToThirtyOne();
        noOtherBaseTasksPriority();
        ticksAreNoughtToFiveHundred();
        whatOfASourceIsNoughtToTwelve();
        whatOfABaseTaskIsNoughtToThree();
        spanIsNoughtToAHundredThousand();
        Check.end();
    }

    /** "SOURCES are 0 .. 5"; "NoSuchElementException when it is not 0 .. 5". */
    private static void sourcesAreNoughtToFive() {
        BudgetKernel kernel = new BudgetKernel();
        for (int i = 0; i <= 5; i++) {
            kernel.source(i, 0, 1, 1, 1, 500, i);
            Check.same("event of source " + i, kernel.event(i), 1);
        }
        Check.ticks("each of them", kernel, 25, 24, 23, 22, 21, 20, 0);
        noSource(-1);
        noSource(6);
        for (int far : FAR) {
            noSource(far);
        }
    }

    private static void noSource(int number) {
        BudgetKernel kernel = new BudgetKernel();
        Check.noElement("source " + number, () -> kernel.source(number, 0, 1, 1, 1, 1, 0));
        Check.noElement("event " + number, () -> kernel.event(number));
        Check.noElement("about " + number, () -> kernel.about(number, 0));
        Check.noElement("bound " + number, () -> kernel.bound(number));
        Check.noElement("used " + number, () -> kernel.used(number, false, 0, 0));
        Check.same("nothing is told by " + number, kernel.floor(10), 10);
    }

    /** "A source has a TOP (0 .. 3 ticks)". */
    private static void topIsNoughtToThree() {
        BudgetKernel least = withNumber(0, 0);
        least.event(0);
        Check.ticks("top 0", least, 20, 0);
        BudgetKernel greatest = withNumber(0, 3);
        greatest.event(0);
        Check.ticks("top 3", greatest, 10, 10, 10, 20, 0);
        numbersRefused(0, -1, 4);
    }

    /** "a COST (1 .. 30 ticks of its handler for each event)". */
    private static void costIsOneToThirty() {
        BudgetKernel least = withNumber(1, 1);
        least.event(0);
        Check.ticks("cost 1", least, 20);
        Check.same("cost 1 is handled", least.about(0, 1), 1);
        BudgetKernel greatest = withNumber(1, 30);
        greatest.event(0);
        Check.same("29 of 30", greatest.ticks(29), 29);
        Check.same("29 of 30 are done", greatest.about(0, 11), 29);
        Check.same("not handled yet", greatest.about(0, 1), 0);
        Check.ticks("cost 30", greatest, 20);
        Check.same("cost 30 is handled", greatest.about(0, 1), 1);
        numbersRefused(1, 0, 31);
    }

    /** "a DISTANCE (1 .. 2000)". */
    private static void distanceIsOneToTwoThousand() {
        BudgetKernel least = new BudgetKernel();
        least.source(0, 1, 1, 1, 1, 500, 0);
        Check.same("distance 1: 100 - 2 - 101", least.floor(100), 0);
        BudgetKernel second = new BudgetKernel();
        second.source(0, 1, 1, 2, 1, 500, 0);
        Check.same("distance 2: 100 - 2 - 51", second.floor(100), 47);
        BudgetKernel greatest = new BudgetKernel();
        greatest.source(0, 1, 1, 2000, 1, 500, 0);
        Check.same("distance 2000: 2000 - 5 - 2", greatest.floor(2000), 1993);
        Check.same("one tick more: 2001 - 6 - 3", greatest.floor(2001), 1992);
        numbersRefused(2, 0, 2001);
    }

    /** "a BUDGET (1 .. 30)". */
    private static void budgetIsOneToThirty() {
        Check.same("budget 1", withNumber(3, 1).about(0, 6), 1);
        BudgetKernel greatest = withNumber(3, 30);
        Check.same("budget 30", greatest.about(0, 6), 30);
        for (int i = 0; i < 20; i++) {
            greatest.event(0);
        }
        Check.same("20 are spent", greatest.ticks(20), 20);
        for (int i = 0; i < 20; i++) {
            greatest.event(0);
        }
        Check.same("10 more are", greatest.ticks(100), 10);
        Check.same("all 30 are", greatest.about(0, 6), 0);
        numbersRefused(3, 0, 31);
    }

    /** "a PERIOD (1 .. 500)". */
    private static void periodIsOneToFiveHundred() {
        BudgetKernel least = withNumber(4, 1);
        least.event(0);
        least.tick();
        Check.same("period 1 is over at 1", least.about(0, 7), 0);
        BudgetKernel greatest = withNumber(4, 500);
        greatest.event(0);
        greatest.ticks(499);
        Check.same("period 500 is not over at 499", greatest.about(0, 7), 1);
        greatest.tick();
        Check.same("period 500 is over at 500", greatest.about(0, 7), 0);
        numbersRefused(4, 0, 501);
    }

    /** "a PRIORITY (0 .. 31, greater is higher". */
    private static void priorityIsNoughtToThirtyOne() {
        BudgetKernel kernel = new BudgetKernel();
        int[] priorities = {0, 31, 1, 30};
        for (int i = 0; i < priorities.length; i++) {
            kernel.source(i, 0, 1, 1, 1, 500, priorities[i]);
            kernel.event(i);
        }
        Check.ticks("greater is higher", kernel, 21, 23, 22, 20, 0);
        numbersRefused(5, -1, 32);
    }

    /** "no two alike"; "IllegalStateException when ... its priority is another one's". */
    private static void noTwoPrioritiesAreAlike() {
        for (int priority : new int[] {0, 1, 30, 31}) {
            BudgetKernel kernel = new BudgetKernel();
            kernel.source(3, 0, 1, 1, 1, 500, priority);
            Check.badState("priority " + priority + " twice", () -> kernel.source(0, 0, 1, 1, 1, 500, priority));
            Check.noElement("and not told", () -> kernel.event(0));
            int next = priority == 31 ? 29 : priority + 1;
            kernel.source(0, 0, 1, 1, 1, 500, next);
            Check.same("one beside it is another", kernel.event(0), 1);
        }
        BudgetKernel both = new BudgetKernel();
        Check.isTrue("a base task's priority", both.base(0, 100, 1, 7));
        both.source(0, 0, 1, 500, 1, 500, 7);
        Check.same("is no source's", both.event(0), 1);
    }

    /** A source 0 that is alone, with one of its numbers chosen. */
    private static BudgetKernel withNumber(int which, int number) {
        int[] n = {0, 1, 500, 30, 500, 0};
        n[which] = number;
        BudgetKernel kernel = new BudgetKernel();
        kernel.source(0, n[0], n[1], n[2], n[3], n[4], n[5]);
        return kernel;
    }

    /** "IllegalArgumentException when a number is not within its bounds". */
    private static void numbersRefused(int which, int below, int above) {
        for (int number : new int[] {below, above, FAR[0], FAR[1]}) {
            int[] n = {0, 1, 500, 30, 500, 0};
            n[which] = number;
            BudgetKernel kernel = new BudgetKernel();
            Check.badArgument("number " + which + " of a source as " + number,
                    () -> kernel.source(0, n[0], n[1], n[2], n[3], n[4], n[5]));
            Check.noElement("it is not told", () -> kernel.about(0, 0));
            Check.same("it takes nothing", kernel.floor(50), 50);
        }
    }

    /** "BASE TASKS 0 .. 5"; "NoSuchElementException when it is not 0 .. 5". */
    private static void baseTasksAreNoughtToFive() {
        BudgetKernel kernel = new BudgetKernel();
        for (int i = 0; i <= 5; i++) {
            Check.isTrue("base task " + i, kernel.base(i, 100, 1, i));
        }
        Check.ticks("each of them", kernel, 35, 34, 33, 32, 31, 30, 0);
        for (int number : new int[] {-1, 6, FAR[0], FAR[1]}) {
            BudgetKernel none = new BudgetKernel();
            Check.noElement("base " + number, () -> none.base(number, 100, 1, 0));
            Check.noElement("task " + number, () -> none.task(number, 0));
            Check.same("nothing runs", none.tick(), 0);
        }
    }

    /** "A base task, of a period 1 .. 2000". */
    private static void taskPeriodIsOneToTwoThousand() {
        BudgetKernel least = new BudgetKernel();
        Check.isTrue("period 1", least.base(0, 1, 1, 0));
        Check.ticks("period 1", least, 30, 30, 30);
        BudgetKernel greatest = new BudgetKernel();
        Check.isTrue("period 2000", greatest.base(0, 2000, 1, 0));
        Check.ticks("period 2000", greatest, 30, 0);
        int ran = greatest.ticks(499) + greatest.ticks(499) + greatest.ticks(500) + greatest.ticks(500);
        Check.same("not up to 2000", ran, 0);
        Check.same("at 2000", greatest.time(), 2000);
        Check.ticks("the next period", greatest, 30);
        taskNumbersRefused(0, 0, 2001);
    }

    /** "a cost 1 .. 500". */
    private static void taskCostIsOneToFiveHundred() {
        BudgetKernel least = new BudgetKernel();
        Check.isTrue("cost 1", least.base(0, 100, 1, 0));
        Check.same("cost 1", least.ticks(100), 1);
        BudgetKernel greatest = new BudgetKernel();
        Check.isTrue("cost 500", greatest.base(0, 2000, 500, 0));
        Check.same("cost 500", greatest.ticks(500), 500);
        Check.same("cost 500 is done", greatest.task(0, 2), 1);
        Check.same("and nothing more", greatest.ticks(500), 0);
        taskNumbersRefused(1, 0, 501);
    }

    /** "a priority 0 .. 31". */
    private static void taskPriorityIsNoughtToThirtyOne() {
        BudgetKernel kernel = new BudgetKernel();
        int[] priorities = {0, 31, 1, 30};
        for (int i = 0; i < priorities.length; i++) {
            Check.isTrue("priority " + priorities[i], kernel.base(i, 100, 1, priorities[i]));
        }
        Check.ticks("greater is higher", kernel, 31, 33, 32, 30, 0);
        taskNumbersRefused(2, -1, 32);
    }

    /** "(no other base task's)"; "IllegalStateException when ... its priority is another one's". */
    private static void noOtherBaseTasksPriority() {
        for (int priority : new int[] {0, 1, 30, 31}) {
            BudgetKernel kernel = new BudgetKernel();
            kernel.base(3, 100, 1, priority);
            Check.badState("priority " + priority + " twice", () -> kernel.base(0, 100, 1, priority));
            Check.noElement("and not told", () -> kernel.task(0, 0));
            Check.isTrue("one beside it is another", kernel.base(0, 100, 1, priority == 31 ? 29 : priority + 1));
        }
        BudgetKernel both = new BudgetKernel();
        both.source(0, 0, 1, 500, 1, 500, 7);
        Check.isTrue("a source's priority is no base task's", both.base(0, 100, 1, 7));
    }

    private static void taskNumbersRefused(int which, int below, int above) {
        for (int number : new int[] {below, above, FAR[0], FAR[1]}) {
            int[] n = {2000, 1, 0};
            n[which] = number;
            BudgetKernel kernel = new BudgetKernel();
            Check.badArgument("number " + which + " of a base task as " + number,
                    () -> kernel.base(0, n[0], n[1], n[2]));
            Check.noElement("it is not told", () -> kernel.task(0, 0));
            Check.same("it does not run", kernel.tick(), 0);
        }
    }

    /** "So many ticks, one by one (0 .. 500)"; "IllegalArgumentException for another n". */
    private static void ticksAreNoughtToFiveHundred() {
        BudgetKernel kernel = new BudgetKernel();
        kernel.base(0, 1, 1, 0);
        Check.same("0 ticks", kernel.ticks(0), 0);
        Check.same("0 ticks take no time", kernel.time(), 0);
        Check.same("0 ticks begin no period", kernel.task(0, 2), 0);
        Check.same("1 tick", kernel.ticks(1), 1);
        Check.same("500 ticks", kernel.ticks(500), 500);
        Check.same("500 ticks later", kernel.time(), 501);
        for (int n : new int[] {-1, 501, FAR[0], FAR[1]}) {
            Check.badArgument("ticks " + n, () -> kernel.ticks(n));
        }
        Check.same("no time for those", kernel.time(), 501);
        Check.same("none of them ran", kernel.task(0, 2), 501);
    }

    /** "Of a source: 0 events taken ... 12 since when its queue is busy"; "IndexOutOfBoundsException for another what". */
    private static void whatOfASourceIsNoughtToTwelve() {
        BudgetKernel kernel = new BudgetKernel();
        kernel.source(5, 0, 2, 1, 9, 50, 0);
        kernel.ticks(4);
        kernel.event(5);
        Check.same("what 0", kernel.about(5, 0), 1);
        Check.same("what 12", kernel.about(5, 12), 4);
        for (int what : new int[] {-1, 13, FAR[0], FAR[1]}) {
            Check.badIndex("what " + what, () -> kernel.about(5, what));
        }
    }

    /** "Of a base task: 0 ticks of work left ... 3 its bound now"; "IndexOutOfBoundsException for another what". */
    private static void whatOfABaseTaskIsNoughtToThree() {
        BudgetKernel kernel = new BudgetKernel();
        kernel.base(5, 50, 9, 0);
        kernel.ticks(4);
        Check.same("what 0", kernel.task(5, 0), 5);
        Check.same("what 3", kernel.task(5, 3), 9);
        for (int what : new int[] {-1, 4, FAR[0], FAR[1]}) {
            Check.badIndex("what " + what, () -> kernel.task(5, what));
        }
    }

    /** "IllegalArgumentException when span is not 0 .. 100000". */
    private static void spanIsNoughtToAHundredThousand() {
        BudgetKernel kernel = new BudgetKernel();
        Check.same("span 0", kernel.floor(0), 0);
        Check.same("span 1", kernel.floor(1), 1);
        Check.same("span 100000", kernel.floor(100000), 100000);
        for (int span : new int[] {-1, 100001, FAR[0], FAR[1]}) {
            Check.badArgument("span " + span, () -> kernel.floor(span));
        }
    }
}
