/** Promises 1 (a new object) and 2 (source). */
public final class SourceTest {
    public static void main(String[] args) {
        newObjectIsEmpty();
        edgesAreTaken();
        wrongNumbersAreRefused();
        firstNamedExceptionIsThrown();
        toldOnceAndPriorityOnce();
        sourceThatBaseTasksCannotBearIsRefused();
        newSourceIsIdle();
        lateSourceHasItsBudget();
        Check.end();
    }

    private static void newObjectIsEmpty() {
        BudgetKernel kernel = new BudgetKernel();
        for (int i = -1; i <= 6; i++) {
            int number = i;
            Check.noElement("new event " + i, () -> kernel.event(number));
            Check.noElement("new about " + i, () -> kernel.about(number, 0));
            Check.noElement("new bound " + i, () -> kernel.bound(number));
            Check.noElement("new used " + i, () -> kernel.used(number, true, 0, 0));
            Check.noElement("new task " + i, () -> kernel.task(number, 0));
        }
        Check.same("new time", kernel.time(), 0);
        Check.same("new floor", kernel.floor(100), 100);
        Check.same("new tick", kernel.tick(), 0);
    }

    private static void edgesAreTaken() {
        BudgetKernel kernel = new BudgetKernel();
        kernel.source(0, 0, 1, 1, 1, 1, 0);
        kernel.source(5, 3, 30, 2000, 30, 500, 31);
        Check.same("least budget", kernel.about(0, 6), 1);
        Check.same("greatest budget", kernel.about(5, 6), 30);
    }

    private static void wrongNumbersAreRefused() {
        BudgetKernel kernel = new BudgetKernel();
        int[] least = {0, 1, 1, 1, 1, 0};
        int[] greatest = {3, 30, 2000, 30, 500, 31};
        for (int i = 0; i < least.length; i++) {
            refused(kernel, i, least[i] - 1);
            refused(kernel, i, greatest[i] + 1);
            refused(kernel, i, Integer.MIN_VALUE);
            refused(kernel, i, Integer.MAX_VALUE);
        }
        for (int number : new int[] {-1, 6, Integer.MIN_VALUE, Integer.MAX_VALUE}) {
            Check.noElement("source " + number, () -> kernel.source(number, 0, 1, 1, 1, 1, 0));
        }
        Check.noElement("refused sources are not told", () -> kernel.event(0));
        Check.same("refused sources take nothing", kernel.floor(10), 10);
    }

    private static void refused(BudgetKernel kernel, int which, int number) {
        int[] n = {1, 1, 1, 1, 1, 1};
        n[which] = number;
        Check.badArgument("number " + which + " as " + number,
                () -> kernel.source(0, n[0], n[1], n[2], n[3], n[4], n[5]));
    }

    private static void firstNamedExceptionIsThrown() {
        BudgetKernel kernel = new BudgetKernel();
        kernel.source(0, 0, 1, 1, 1, 1, 4);
        Check.noElement("no such source and bad numbers", () -> kernel.source(6, 4, 0, 0, 0, 0, 4));
        Check.noElement("no such source and its priority", () -> kernel.source(-1, 0, 1, 1, 1, 1, 4));
        Check.badArgument("told and a bad number", () -> kernel.source(0, 4, 1, 1, 1, 1, 4));
        Check.badArgument("another's priority and a bad number", () -> kernel.source(1, 0, 31, 1, 1, 1, 4));
    }

    private static void toldOnceAndPriorityOnce() {
        BudgetKernel kernel = new BudgetKernel();
        kernel.source(2, 0, 3, 5, 7, 11, 4);
        Check.badState("told", () -> kernel.source(2, 0, 1, 1, 1, 1, 5));
        Check.badState("another's priority", () -> kernel.source(3, 0, 1, 1, 1, 1, 4));
        Check.same("still the first budget", kernel.about(2, 6), 7);
        kernel.source(3, 0, 1, 1, 1, 1, 5);
        BudgetKernel other = new BudgetKernel();
        other.source(0, 0, 1, 500, 1, 500, 4);
        Check.isTrue("priorities of tasks are their own", other.base(0, 10, 1, 4));
        other.source(1, 0, 1, 500, 1, 500, 3);
        Check.isTrue("and those of sources", other.base(1, 100, 1, 3));
    }

    private static void sourceThatBaseTasksCannotBearIsRefused() {
        BudgetKernel kernel = new BudgetKernel();
        kernel.base(0, 10, 6, 0);
        Check.badState("too much", () -> kernel.source(0, 0, 1, 1, 1, 1, 7));
        Check.noElement("it is not told", () -> kernel.about(0, 0));
        Check.same("the bound stays", kernel.task(0, 3), 6);
        kernel.source(1, 0, 1, 500, 1, 500, 7);
        Check.same("its priority was free", kernel.task(0, 3), 8);
        kernel.source(0, 0, 1, 500, 1, 500, 8);
        Check.same("up to the period", kernel.task(0, 3), 10);
        Check.badState("but not above it", () -> kernel.source(2, 0, 1, 500, 1, 500, 9));
        Check.same("the bound stays again", kernel.task(0, 3), 10);
        Check.same("and so does the floor", kernel.floor(10), 6);
    }

    private static void newSourceIsIdle() {
        BudgetKernel kernel = new BudgetKernel();
        kernel.source(4, 2, 3, 5, 7, 11, 4);
        Check.about("new source", kernel, 4, 0, 0, 0, 0, 0, 0, 7, 0, -1, 0, 0, 0, -1);
    }

    private static void lateSourceHasItsBudget() {
        BudgetKernel kernel = new BudgetKernel();
        kernel.ticks(40);
        kernel.source(0, 0, 2, 1, 2, 10, 0);
        Check.about("late source", kernel, 0, 0, 0, 0, 0, 0, 0, 2, 0, -1, 0, 0, 0, -1);
        kernel.event(0);
        Check.ticks("late source", kernel, 20, 20);
        Check.about("late source spent", kernel, 0, 1, 1, 0, 0, 0, 0, 0, 1, 50, 2, 2, 0, -1);
    }
}
