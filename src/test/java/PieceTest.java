/** Units and pieces: what promise 5 (tick) spends and gives back, as promise 7 (about) tells it. */
public final class PieceTest {
    public static void main(String[] args) {
        pieceCountsFromWhenTheQueueIsBusy();
        pieceCountsFromWhenTheUnitIsLeft();
        unitThatWaitedAPeriodCountsFromItsTick();
        unitThatWaitedLessCountsFromBefore();
        unitsOfOneTimeAreOnePiece();
        otherSourcesDoNotPartAPiece();
        firstOfTheLeastIsTold();
        seventeenthPieceGoesIntoTheLast();
        shortestPeriodGivesBackAtOnce();
        Check.end();
    }

    private static void pieces(String what, BudgetKernel kernel, int source, int units, int count, int time, int amount) {
        Check.same(what + ": units left", kernel.about(source, 6), units);
        Check.same(what + ": pieces", kernel.about(source, 7), count);
        Check.same(what + ": time", kernel.about(source, 8), time);
        Check.same(what + ": amount", kernel.about(source, 9), amount);
    }

    private static void pieceCountsFromWhenTheQueueIsBusy() {
        BudgetKernel kernel = new BudgetKernel();
        kernel.source(0, 0, 1, 1, 3, 20, 0);
        kernel.source(1, 0, 4, 1, 30, 500, 1);
        kernel.ticks(5);
        kernel.event(0);
        kernel.event(1);
        Check.ticks("delayed", kernel, 21, 21, 21, 21, 20);
        pieces("since 5, not 9", kernel, 0, 2, 1, 25, 1);
        kernel.ticks(14);
        pieces("at 24", kernel, 0, 2, 1, 25, 1);
        kernel.tick();
        pieces("given back when 25 is reached", kernel, 0, 3, 0, -1, 0);
    }

    private static void pieceCountsFromWhenTheUnitIsLeft() {
        BudgetKernel kernel = new BudgetKernel();
        kernel.source(0, 0, 30, 1, 2, 10, 0);
        kernel.event(0);
        kernel.ticks(2);
        pieces("first", kernel, 0, 0, 1, 10, 2);
        kernel.ticks(8);
        pieces("back", kernel, 0, 2, 0, -1, 0);
        kernel.tick();
        pieces("since 10", kernel, 0, 1, 1, 20, 1);
        kernel.tick();
        pieces("since 10 too", kernel, 0, 0, 1, 20, 2);
    }

    /** Top halves keep the handler from running for six ticks. */
    private static BudgetKernel afterSixTicksOfTops(int period) {
        BudgetKernel kernel = new BudgetKernel();
        kernel.source(0, 3, 3, 1, 4, period, 0);
        kernel.event(0);
        kernel.event(0);
        Check.ticks("tops", kernel, 10, 10, 10, 10, 10, 10, 20);
        return kernel;
    }

    private static void unitThatWaitedAPeriodCountsFromItsTick() {
        pieces("longer than a period", afterSixTicksOfTops(5), 0, 3, 1, 11, 1);
        BudgetKernel kernel = afterSixTicksOfTops(6);
        pieces("just a period", kernel, 0, 3, 1, 12, 1);
        kernel.tick();
        pieces("each from its own tick", kernel, 0, 2, 2, 12, 1);
    }

    private static void unitThatWaitedLessCountsFromBefore() {
        pieces("given back at once", afterSixTicksOfTops(7), 0, 4, 0, -1, 0);
        pieces("one later", afterSixTicksOfTops(8), 0, 3, 1, 8, 1);
    }

    private static void unitsOfOneTimeAreOnePiece() {
        BudgetKernel kernel = new BudgetKernel();
        kernel.source(0, 0, 2, 1, 6, 50, 0);
        kernel.event(0);
        kernel.event(0);
        kernel.ticks(4);
        pieces("both events of one busy time", kernel, 0, 2, 1, 50, 4);
        kernel.event(0);
        kernel.tick();
        pieces("another busy time", kernel, 0, 1, 2, 50, 4);
        kernel.ticks(45);
        pieces("the first is given back", kernel, 0, 4, 1, 54, 2);
    }

    private static void otherSourcesDoNotPartAPiece() {
        BudgetKernel kernel = new BudgetKernel();
        kernel.source(0, 0, 4, 1, 6, 50, 0);
        kernel.source(1, 0, 1, 1, 6, 50, 1);
        kernel.event(0);
        kernel.tick();
        kernel.event(1);
        Check.ticks("between", kernel, 21, 20, 20);
        pieces("one piece", kernel, 0, 3, 1, 50, 3);
        pieces("and one of the other", kernel, 1, 5, 1, 51, 1);
    }

    private static void firstOfTheLeastIsTold() {
        BudgetKernel kernel = new BudgetKernel();
        kernel.source(0, 0, 1, 1, 4, 10, 9);
        kernel.source(1, 2, 1, 1, 1, 500, 0);
        kernel.event(0);
        kernel.ticks(6);
        for (int i = 0; i < 6; i++) {
            kernel.event(0);
        }
        Check.ticks("two of six", kernel, 20, 20);
        for (int i = 0; i < 4; i++) {
            kernel.event(1);
        }
        Check.ticks("tops", kernel, 11, 11, 11, 11, 11, 11, 11, 11);
        Check.ticks("a unit that waited a period", kernel, 20);
        pieces("from its tick", kernel, 0, 3, 1, 26, 1);
        Check.ticks("one that is left since 10", kernel, 20);
        pieces("earlier than the first", kernel, 0, 2, 2, 20, 1);
        Check.ticks("two that are left since 16", kernel, 20, 20);
        pieces("the least goes, two of one time stay", kernel, 0, 1, 2, 26, 1);
        kernel.ticks(6);
        pieces("both are given back", kernel, 0, 4, 0, -1, 0);
    }

    private static void seventeenthPieceGoesIntoTheLast() {
        BudgetKernel kernel = new BudgetKernel();
        kernel.source(0, 0, 1, 1, 30, 500, 0);
        for (int i = 0; i < 16; i++) {
            kernel.event(0);
            kernel.tick();
        }
        pieces("sixteen", kernel, 0, 14, 16, 500, 1);
        kernel.event(0);
        kernel.tick();
        pieces("seventeen", kernel, 0, 13, 16, 500, 1);
        kernel.event(0);
        kernel.tick();
        pieces("eighteen", kernel, 0, 12, 16, 500, 1);
        kernel.ticks(482);
        pieces("the first is given back", kernel, 0, 13, 15, 501, 1);
        kernel.ticks(14);
        pieces("all but the last", kernel, 0, 27, 1, 517, 3);
        kernel.tick();
        pieces("which has a later time", kernel, 0, 27, 1, 517, 3);
        kernel.ticks(2);
        pieces("all", kernel, 0, 30, 0, -1, 0);
    }

    private static void shortestPeriodGivesBackAtOnce() {
        BudgetKernel kernel = new BudgetKernel();
        kernel.source(0, 0, 3, 1, 1, 1, 0);
        kernel.event(0);
        for (int i = 0; i < 3; i++) {
            Check.ticks("a period of one", kernel, 20);
            pieces("a period of one", kernel, 0, 1, 0, -1, 0);
        }
        Check.ticks("done", kernel, 0);
    }
}
