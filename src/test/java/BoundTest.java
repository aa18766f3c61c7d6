/** Promises 9 (bound) and 11 (floor), and the bound that promise 8 (task) tells. */
public final class BoundTest {
    public static void main(String[] args) {
        boundsOfThreeSources();
        boundOfATaskBelowThem();
        floorOfThreeSources();
        boundUpToThePeriod();
        boundNeedsBudgetAndDistance();
        boundMovesWithLaterSources();
        wrongInputsAreRefused();
        Check.end();
    }

    private static BudgetKernel threeSources() {
        BudgetKernel kernel = new BudgetKernel();
        kernel.source(0, 1, 2, 50, 3, 40, 5);
        kernel.source(1, 2, 4, 100, 4, 30, 9);
        kernel.source(2, 0, 5, 60, 5, 60, 1);
        return kernel;
    }

    private static void boundsOfThreeSources() {
        BudgetKernel kernel = threeSources();
        Check.same("4 + tops 2 + 4", kernel.bound(1), 10);
        Check.same("2 + 2 * 4 + tops 2 + 4", kernel.bound(0), 16);
        Check.same("5 + 2 * 4 + 2 * 3 + tops 2 + 4", kernel.bound(2), 25);
        kernel.base(0, 2000, 100, 31);
        Check.same("base tasks do not count", kernel.bound(2), 25);
    }

    private static void boundOfATaskBelowThem() {
        BudgetKernel kernel = threeSources();
        Check.isTrue("admitted", kernel.base(0, 200, 20, 3));
        Check.same("20 + 9 + 12 + 10 + tops 3 + 4", kernel.task(0, 3), 58);
        Check.isTrue("a lower one", kernel.base(1, 2000, 10, 2));
        Check.same("the higher one's stays", kernel.task(0, 3), 58);
        Check.same("10 + 9 + 16 + 15 + tops 3 + 4 + 20", kernel.task(1, 3), 77);
    }

    private static void floorOfThreeSources() {
        BudgetKernel kernel = threeSources();
        int[] spans = {0, 1, 29, 30, 31, 38, 58, 60, 61, 100000};
        int[] due = {0, 0, 0, 0, 0, 4, 20, 22, 14, 66814};
        for (int i = 0; i < spans.length; i++) {
            Check.same("floor of " + spans[i], kernel.floor(spans[i]), due[i]);
        }
        kernel.base(0, 200, 20, 3);
        Check.same("base tasks do not count", kernel.floor(58), 20);
        BudgetKernel none = new BudgetKernel();
        Check.same("all of it", none.floor(100000), 100000);
        Check.same("all of nothing", none.floor(0), 0);
        BudgetKernel heavy = new BudgetKernel();
        for (int i = 0; i < 6; i++) {
            heavy.source(i, 3, 30, 1, 30, 1, i);
        }
        Check.same("not below 0", heavy.floor(100000), 0);
    }

    private static void boundUpToThePeriod() {
        BudgetKernel kernel = new BudgetKernel();
        kernel.source(0, 1, 5, 7, 5, 7, 0);
        Check.same("its own top counts", kernel.bound(0), 7);
        BudgetKernel shorter = new BudgetKernel();
        shorter.source(0, 1, 5, 6, 5, 6, 0);
        Check.same("above the period", shorter.bound(0), -1);
        BudgetKernel plain = new BudgetKernel();
        plain.source(0, 0, 1, 1, 1, 1, 0);
        Check.same("one", plain.bound(0), 1);
        plain.source(1, 0, 1, 500, 1, 500, 1);
        Check.same("a higher one", plain.bound(0), -1);
        Check.same("a lower one takes nothing", plain.bound(1), 1);
    }

    private static void boundNeedsBudgetAndDistance() {
        BudgetKernel kernel = new BudgetKernel();
        kernel.source(0, 0, 5, 100, 5, 100, 0);
        Check.same("cost is the budget, distance the period", kernel.bound(0), 5);
        BudgetKernel dear = new BudgetKernel();
        dear.source(0, 0, 6, 100, 5, 100, 0);
        Check.same("cost above the budget", dear.bound(0), -1);
        BudgetKernel near = new BudgetKernel();
        near.source(0, 0, 5, 99, 5, 100, 0);
        Check.same("distance below the period", near.bound(0), -1);
    }

    private static void boundMovesWithLaterSources() {
        BudgetKernel kernel = new BudgetKernel();
        kernel.source(0, 0, 5, 100, 5, 100, 3);
        kernel.base(0, 100, 10, 0);
        Check.same("of the source", kernel.bound(0), 5);
        Check.same("of the task", kernel.task(0, 3), 20);
        kernel.source(1, 0, 1, 10, 1, 10, 4);
        Check.same("5 + 2 * 1", kernel.bound(0), 7);
        Check.same("10 + 10 + (3 + 1) * 1", kernel.task(0, 3), 24);
        kernel.source(2, 1, 1, 10, 1, 500, 2);
        Check.same("5 + 2 * 1 + tops 2 * 1", kernel.bound(0), 9);
        Check.same("10 + 10 + 4 + 2 + tops 4", kernel.task(0, 3), 30);
    }

    private static void wrongInputsAreRefused() {
        BudgetKernel kernel = threeSources();
        for (int source : new int[] {-1, 3, 5, 6, Integer.MIN_VALUE, Integer.MAX_VALUE}) {
            Check.noElement("bound " + source, () -> kernel.bound(source));
        }
        for (int span : new int[] {-1, 100001, Integer.MIN_VALUE, Integer.MAX_VALUE}) {
            Check.badArgument("floor " + span, () -> kernel.floor(span));
        }
    }
}
