/** Promises 5 (tick), 6 (ticks) and 12 (time). */
public final class TickTest {
    public static void main(String[] args) {
        idleTickRunsNothing();
        everyKindHasItsNumber();
        topBeforeHandlerBeforeTask();
        sourceWithoutUnitsWaits();
        higherSourceInterrupts();
        greatestDelayIsKept();
        ticksCountsWhatRan();
        wrongCountsAreRefused();
        ticksIsManyTicks();
        Check.end();
    }

    private static void idleTickRunsNothing() {
        BudgetKernel kernel = new BudgetKernel();
        Check.ticks("idle", kernel, 0, 0, 0);
        Check.same("time goes on", kernel.time(), 3);
    }

    private static void everyKindHasItsNumber() {
        BudgetKernel kernel = new BudgetKernel();
        for (int i = 0; i < 6; i++) {
            Check.isTrue("task " + i, kernel.base(i, 500, 1, i));
        }
        for (int i = 0; i < 6; i++) {
            kernel.source(i, 1, 1, 500, 1, 500, 31 - i);
            kernel.event(i);
        }
        Check.ticks("numbers", kernel, 10, 11, 12, 13, 14, 15, 20, 21, 22, 23, 24, 25, 35, 34, 33, 32, 31, 30, 0);
    }

    private static void topBeforeHandlerBeforeTask() {
        BudgetKernel kernel = new BudgetKernel();
        kernel.base(0, 200, 2, 31);
        kernel.source(0, 2, 2, 100, 10, 100, 0);
        kernel.source(1, 0, 2, 100, 10, 100, 31);
        Check.ticks("the task alone", kernel, 30);
        kernel.event(1);
        Check.ticks("a handler", kernel, 21);
        kernel.event(0);
        Check.ticks("a top half interrupts it", kernel, 10, 10, 21, 20, 20, 30, 0);
    }

    private static void sourceWithoutUnitsWaits() {
        BudgetKernel kernel = new BudgetKernel();
        kernel.base(0, 300, 9, 0);
        kernel.source(0, 0, 5, 100, 2, 6, 31);
        kernel.source(1, 0, 1, 100, 1, 100, 30);
        kernel.event(0);
        kernel.event(1);
        Check.ticks("two of each six", kernel, 20, 20, 21, 30, 30, 30, 20, 20, 30, 30, 30, 30, 20, 30, 30, 0);
        Check.same("handled", kernel.about(0, 1), 1);
        Check.same("delay", kernel.about(0, 10), 13);
    }

    private static void higherSourceInterrupts() {
        BudgetKernel kernel = new BudgetKernel();
        kernel.source(0, 0, 3, 1, 30, 500, 5);
        kernel.source(1, 0, 2, 1, 30, 500, 6);
        kernel.event(0);
        Check.ticks("low", kernel, 20);
        kernel.event(1);
        Check.ticks("high", kernel, 21);
        Check.same("what is done of the low one stays", kernel.about(0, 11), 1);
        Check.same("and of the high one", kernel.about(1, 11), 1);
        Check.ticks("back", kernel, 21, 20, 20, 0);
        Check.same("delay of the low one", kernel.about(0, 10), 5);
        Check.same("delay of the high one", kernel.about(1, 10), 2);
    }

    private static void greatestDelayIsKept() {
        BudgetKernel kernel = new BudgetKernel();
        kernel.source(0, 0, 1, 1, 30, 500, 5);
        kernel.event(0);
        kernel.event(0);
        kernel.event(0);
        kernel.ticks(10);
        Check.same("of three", kernel.about(0, 10), 3);
        kernel.event(0);
        kernel.ticks(10);
        Check.same("a shorter one changes nothing", kernel.about(0, 10), 3);
    }

    private static void ticksCountsWhatRan() {
        BudgetKernel kernel = new BudgetKernel();
        kernel.source(0, 2, 3, 100, 30, 100, 5);
        kernel.base(0, 400, 10, 0);
        kernel.event(0);
        Check.same("none", kernel.ticks(0), 0);
        Check.same("time stands", kernel.time(), 0);
        Check.same("four", kernel.ticks(4), 4);
        Check.same("the rest", kernel.ticks(50), 11);
        Check.same("the next period", kernel.ticks(500), 10);
        Check.same("time", kernel.time(), 554);
    }

    private static void wrongCountsAreRefused() {
        BudgetKernel kernel = new BudgetKernel();
        kernel.source(0, 1, 1, 1, 1, 1, 0);
        kernel.event(0);
        for (int n : new int[] {-1, 501, Integer.MIN_VALUE, Integer.MAX_VALUE}) {
            Check.badArgument("ticks " + n, () -> kernel.ticks(n));
        }
        Check.same("time stands", kernel.time(), 0);
        Check.same("nothing ran", kernel.tick(), 10);
    }

    private static void ticksIsManyTicks() {
        BudgetKernel one = new BudgetKernel();
        BudgetKernel many = new BudgetKernel();
        for (BudgetKernel kernel : new BudgetKernel[] {one, many}) {
            kernel.source(0, 3, 7, 20, 5, 9, 5);
            for (int i = 0; i < 20; i++) {
                kernel.event(0);
            }
        }
        int ran = 0;
        for (int i = 0; i < 300; i++) {
            ran += one.tick() == 0 ? 0 : 1;
        }
        Check.same("as many ran", many.ticks(300), ran);
        for (int what = 0; what <= 12; what++) {
            Check.same("the same about " + what, many.about(0, what), one.about(0, what));
        }
        Check.same("the same time", many.time(), one.time());
    }
}
