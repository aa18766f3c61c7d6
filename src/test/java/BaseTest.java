/** Promises 3 (base) and 8 (task). */
public final class BaseTest {
    public static void main(String[] args) {
        edgesAreTaken();
        wrongNumbersAreRefused();
        firstNamedExceptionIsThrown();
        toldOnceAndPriorityOnce();
        taskThatIsNotAdmittedLeavesNothing();
        taskThatHarmsAnotherIsNotAdmitted();
        workBeginsWithItsTick();
        higherPriorityRunsFirst();
        workLeftAtTheNextPeriodIsMissed();
        wrongQuestionsAreRefused();
        Check.end();
    }

    private static void edgesAreTaken() {
        BudgetKernel kernel = new BudgetKernel();
        Check.isTrue("least", kernel.base(0, 1, 1, 0));
        Check.same("bound of 1", kernel.task(0, 3), 1);
        BudgetKernel other = new BudgetKernel();
        Check.isTrue("greatest", other.base(5, 2000, 500, 31));
        Check.same("bound of 500", other.task(5, 3), 500);
        Check.isTrue("cost as long as the period", other.base(0, 500, 500, 30) == false);
        BudgetKernel full = new BudgetKernel();
        Check.isTrue("all of the time", full.base(0, 500, 500, 30));
        Check.isTrue("nothing is left", full.base(1, 2000, 1, 0) == false);
    }

    private static void wrongNumbersAreRefused() {
        BudgetKernel kernel = new BudgetKernel();
        int[] least = {1, 1, 0};
        int[] greatest = {2000, 500, 31};
        for (int i = 0; i < least.length; i++) {
            refused(kernel, i, least[i] - 1);
            refused(kernel, i, greatest[i] + 1);
            refused(kernel, i, Integer.MIN_VALUE);
            refused(kernel, i, Integer.MAX_VALUE);
        }
        for (int number : new int[] {-1, 6, Integer.MIN_VALUE, Integer.MAX_VALUE}) {
            Check.noElement("base " + number, () -> kernel.base(number, 1, 1, 1));
        }
        Check.noElement("refused tasks are not told", () -> kernel.task(0, 0));
    }

    private static void refused(BudgetKernel kernel, int which, int number) {
        int[] n = {1, 1, 1};
        n[which] = number;
        Check.badArgument("number " + which + " as " + number, () -> kernel.base(0, n[0], n[1], n[2]));
    }

    private static void firstNamedExceptionIsThrown() {
        BudgetKernel kernel = new BudgetKernel();
        kernel.base(0, 10, 1, 4);
        Check.noElement("no such task and bad numbers", () -> kernel.base(6, 0, 0, 4));
        Check.badArgument("told and a bad number", () -> kernel.base(0, 10, 0, 4));
        Check.badArgument("another's priority and a bad number", () -> kernel.base(1, 0, 1, 4));
        Check.badState("told and not to be admitted", () -> kernel.base(0, 1, 500, 3));
        Check.badState("another's priority and not to be admitted", () -> kernel.base(1, 1, 500, 4));
        Check.noElement("no such task and no such question", () -> kernel.task(1, 4));
    }

    private static void toldOnceAndPriorityOnce() {
        BudgetKernel kernel = new BudgetKernel();
        kernel.base(0, 10, 2, 4);
        Check.badState("told", () -> kernel.base(0, 10, 3, 5));
        Check.badState("another's priority", () -> kernel.base(1, 10, 3, 4));
        Check.same("still the first cost", kernel.task(0, 3), 2);
        Check.noElement("not told", () -> kernel.task(1, 0));
    }

    private static void taskThatIsNotAdmittedLeavesNothing() {
        BudgetKernel kernel = new BudgetKernel();
        kernel.source(0, 1, 1, 10, 1, 10, 0);
        Check.isTrue("R = 2 + 2 + 2 is above 5", kernel.base(3, 5, 2, 9) == false);
        Check.noElement("not told", () -> kernel.task(3, 0));
        Check.same("nothing runs", kernel.tick(), 0);
        Check.isTrue("told again, its priority is free", kernel.base(3, 6, 2, 9));
        Check.same("bound", kernel.task(3, 3), 6);
    }

    private static void taskThatHarmsAnotherIsNotAdmitted() {
        BudgetKernel kernel = new BudgetKernel();
        Check.isTrue("low", kernel.base(0, 10, 5, 1));
        Check.isTrue("high, with a bound of its own", kernel.base(1, 20, 6, 2) == false);
        Check.same("the bound stays", kernel.task(0, 3), 5);
        Check.isTrue("high, less", kernel.base(1, 20, 5, 2));
        Check.same("the bound is its period", kernel.task(0, 3), 10);
        Check.same("the high one's", kernel.task(1, 3), 5);
        BudgetKernel more = new BudgetKernel();
        more.base(0, 4, 1, 9);
        more.base(1, 7, 2, 8);
        Check.isTrue("third", more.base(2, 18, 3, 7));
        Check.same("R = 3 + 2 * 1 + 1 * 2 = 7", more.task(2, 3), 7);
        Check.isTrue("fourth", more.base(3, 30, 3, 6));
        Check.same("R = 3 + 4 * 1 + 2 * 2 + 1 * 3 = 14", more.task(3, 3), 14);
    }

    private static void workBeginsWithItsTick() {
        BudgetKernel kernel = new BudgetKernel();
        kernel.ticks(7);
        kernel.base(5, 4, 2, 0);
        Check.same("no work before the tick", kernel.task(5, 0), 0);
        Check.ticks("begins now", kernel, 35, 35, 0, 0, 35);
        Check.same("work left", kernel.task(5, 0), 1);
        Check.same("done once", kernel.task(5, 2), 1);
        Check.same("missed none", kernel.task(5, 1), 0);
        Check.ticks("goes on", kernel, 35, 0, 0, 35);
        Check.same("done twice", kernel.task(5, 2), 2);
    }

    private static void higherPriorityRunsFirst() {
        BudgetKernel kernel = new BudgetKernel();
        kernel.base(0, 12, 3, 0);
        kernel.base(1, 4, 1, 31);
        kernel.base(2, 6, 1, 7);
        Check.ticks("by priority", kernel, 31, 32, 30, 30, 31, 30, 32, 0, 31, 0, 0, 0, 31, 32, 30);
    }

    private static void workLeftAtTheNextPeriodIsMissed() {
        BudgetKernel kernel = new BudgetKernel();
        kernel.source(0, 3, 1, 2000, 1, 500, 0);
        Check.isTrue("admitted", kernel.base(0, 20, 5, 0));
        Check.same("bound", kernel.task(0, 3), 13);
        for (int i = 0; i < 25; i++) {
            kernel.event(0);
        }
        kernel.ticks(20);
        Check.same("not missed before the next tick", kernel.task(0, 1), 0);
        kernel.ticks(55);
        Check.same("missed at 20, 40 and 60", kernel.task(0, 1), 3);
        Check.same("its work is its cost", kernel.task(0, 0), 5);
        Check.ticks("then what is left", kernel, 20, 30, 30, 30, 30);
        Check.same("one is left", kernel.task(0, 0), 1);
        Check.same("not done", kernel.task(0, 2), 0);
        Check.ticks("a new period", kernel, 30);
        Check.same("missed at 80", kernel.task(0, 1), 4);
        Check.same("what was left is dropped", kernel.task(0, 0), 4);
        kernel.ticks(4);
        Check.same("done", kernel.task(0, 2), 1);
        Check.same("nothing is left", kernel.task(0, 0), 0);
        kernel.ticks(20);
        Check.same("not missed any more", kernel.task(0, 1), 4);
    }

    private static void wrongQuestionsAreRefused() {
        BudgetKernel kernel = new BudgetKernel();
        kernel.base(0, 10, 2, 4);
        for (int what : new int[] {-1, 4, Integer.MIN_VALUE, Integer.MAX_VALUE}) {
            Check.badIndex("task what " + what, () -> kernel.task(0, what));
        }
        for (int task : new int[] {-1, 1, 6, Integer.MIN_VALUE, Integer.MAX_VALUE}) {
            Check.noElement("task " + task, () -> kernel.task(task, 0));
        }
    }
}
