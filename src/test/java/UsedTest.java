/** Promise 10 (used). */
public final class UsedTest {
    public static void main(String[] args) {
        handlersAndTopsAreCounted();
        spansHaveTheirEdges();
        thousandTicksAreRemembered();
        wrongInputsAreRefused();
        Check.end();
    }

    private static void handlersAndTopsAreCounted() {
        BudgetKernel kernel = new BudgetKernel();
        kernel.base(0, 100, 4, 0);
        kernel.source(0, 2, 3, 100, 5, 100, 1);
        kernel.source(1, 1, 2, 100, 5, 100, 2);
        kernel.event(0);
        kernel.event(1);
        Check.ticks("run", kernel, 10, 10, 11, 21, 21, 20, 20, 20, 30, 30);
        Check.same("handler of 0", kernel.used(0, false, 0, 10), 3);
        Check.same("and its top", kernel.used(0, true, 0, 10), 5);
        Check.same("handler of 1", kernel.used(1, false, 0, 10), 2);
        Check.same("and its top", kernel.used(1, true, 0, 10), 3);
        Check.same("only the tasks", kernel.used(0, true, 8, 10), 0);
        Check.same("first tick", kernel.used(0, true, 0, 1), 1);
        Check.same("to is left out", kernel.used(0, true, 0, 5), 2);
        Check.same("from is in", kernel.used(0, true, 1, 6), 2);
        Check.same("no ticks", kernel.used(0, true, 5, 5), 0);
    }

    private static void spansHaveTheirEdges() {
        BudgetKernel kernel = new BudgetKernel();
        kernel.source(0, 0, 1, 1, 1, 1, 0);
        Check.same("at time 0", kernel.used(0, true, 0, 0), 0);
        Check.badIndex("tick 0 is not yet", () -> kernel.used(0, true, 0, 1));
        kernel.ticks(10);
        Check.same("up to now", kernel.used(0, true, 10, 10), 0);
        Check.badIndex("to is later than now", () -> kernel.used(0, true, 0, 11));
        Check.badIndex("both are later than now", () -> kernel.used(0, true, 11, 11));
        Check.badIndex("from is below 0", () -> kernel.used(0, true, -1, 5));
        Check.badIndex("from is above to", () -> kernel.used(0, true, 6, 5));
    }

    private static void thousandTicksAreRemembered() {
        BudgetKernel kernel = new BudgetKernel();
        kernel.source(0, 0, 1, 1, 5, 5, 0);
        kernel.event(0);
        kernel.tick();
        kernel.event(0);
        kernel.tick();
        kernel.ticks(500);
        kernel.ticks(498);
        Check.same("time", kernel.time(), 1000);
        Check.same("from 0", kernel.used(0, false, 0, 1000), 2);
        kernel.event(0);
        kernel.tick();
        Check.badIndex("1001 ago", () -> kernel.used(0, false, 0, 1001));
        Check.badIndex("1001 ago, no ticks", () -> kernel.used(0, false, 0, 0));
        Check.same("1000 ago", kernel.used(0, false, 1, 1001), 2);
        Check.same("the newest", kernel.used(0, false, 1000, 1001), 1);
        kernel.tick();
        Check.same("1000 ago again", kernel.used(0, false, 2, 1002), 1);
        kernel.ticks(500);
        kernel.ticks(500);
        Check.same("forgotten", kernel.used(0, true, 1002, 2002), 0);
    }

    private static void wrongInputsAreRefused() {
        BudgetKernel kernel = new BudgetKernel();
        kernel.source(0, 0, 1, 1, 1, 1, 0);
        kernel.ticks(3);
        for (int source : new int[] {-1, 1, 6, Integer.MIN_VALUE, Integer.MAX_VALUE}) {
            Check.noElement("used " + source, () -> kernel.used(source, true, 0, 1));
            Check.noElement("no such source first, " + source, () -> kernel.used(source, true, 2, 1));
        }
        int[] far = {Integer.MIN_VALUE, Integer.MAX_VALUE};
        for (int end : far) {
            Check.badIndex("from " + end, () -> kernel.used(0, true, end, 3));
            Check.badIndex("to " + end, () -> kernel.used(0, true, 0, end));
            Check.badIndex("both " + end, () -> kernel.used(0, true, end, end));
        }
    }
}
