/**
 * Bounds: a span that is just a multiple and one tick more, a bound that is just the period and one that is above it,
 * a source or base task that is just admitted. Above each test stands the sentence of the document that it holds.
 */
public final class SpanEdgeTest {
    public static void main(String[] args) {
        floorOfNoSources();
        floorAtMultiples();
        floorIsNoughtAtLeast();
        floorOfTheHeaviestSources();
        leastBoundIsOne();
        budgetsInABound();
        topsInABound();
        higherTasksInABound();
        everySourceCountsForATask();
        taskBoundOfJustItsPeriod();
        taskThatIsNotAdmittedDoesNothing();
        allTasksMustBeAdmitted();
        sourceThatIsJustAdmitted();
        sourceThatOneOfTheTasksCannotBear();
        anySourceWithoutBaseTasks();
        costNotAboveTheBudget();
        distanceNotBelowThePeriod();
        sourceBoundOfJustItsPeriod();
        higherBudgetsInASourceBound();
        allTopsInASourceBound();
        baseTasksAreNotInASourceBound();
        sourceBoundThatRunsAway();
        Check.end();
    }

    private static BudgetKernel withSource(int top, int distance, int budget, int period) {
        BudgetKernel kernel = new BudgetKernel();
        kernel.source(0, top, 1, distance, budget, period, 5);
        return kernel;
    }

    /** "What SOURCES(span) leaves of span ticks": all of it, when there are none. */
    private static void floorOfNoSources() {
        BudgetKernel kernel = new BudgetKernel();
        Check.same("no source", kernel.floor(50), 50);
        kernel.base(0, 10, 5, 0);
        Check.same("base tasks are no sources", kernel.floor(50), 50);
    }

    /** "ceil(a, b) the least whole number not below a / b"; "(ceil(R, period) + 1) * budget + (ceil(R, distance) + 1) * top". */
    private static void floorAtMultiples() {
        BudgetKernel kernel = withSource(1, 70, 2, 100);
        int[][] due = {{0, 0}, {1, 0}, {69, 63}, {70, 64}, {71, 64}, {99, 92}, {100, 93}, {101, 92}, {140, 131},
            {141, 131}, {200, 190}, {201, 189}};
        for (int[] row : due) {
            Check.same("floor " + row[0], kernel.floor(row[0]), row[1]);
        }
        BudgetKernel shortest = withSource(0, 1, 1, 1);
        Check.same("a period of 1: 9 - 10", shortest.floor(9), 0);
        BudgetKernel two = withSource(0, 1, 1, 2);
        Check.same("a period of 2: 9 - 6", two.floor(9), 3);
    }

    /** "0 at least". */
    private static void floorIsNoughtAtLeast() {
        BudgetKernel kernel = withSource(1, 500, 3, 500);
        int[] due = {0, 0, 0, 0, 0, 0, 0, 0, 0, 1, 2};
        for (int span = 0; span < due.length; span++) {
            Check.same("8 of " + span, kernel.floor(span), due[span]);
        }
    }

    /** "0 at least", "span ... 0 .. 100000": the greatest sum that there can be. */
    private static void floorOfTheHeaviestSources() {
        BudgetKernel kernel = new BudgetKernel();
        for (int i = 0; i <= 5; i++) {
            kernel.source(i, 3, 30, 1, 30, 1, i);
        }
        Check.same("of the longest span", kernel.floor(100000), 0);
        Check.same("of none", kernel.floor(0), 0);
    }

    /** "the least R >= 1". */
    private static void leastBoundIsOne() {
        BudgetKernel kernel = new BudgetKernel();
        Check.isTrue("task", kernel.base(0, 1, 1, 0));
        Check.same("of the task", kernel.task(0, 3), 1);
        BudgetKernel other = new BudgetKernel();
        other.source(0, 0, 1, 1, 1, 1, 0);
        Check.same("of the source", other.bound(0), 1);
    }

    private static int boundOfTask(BudgetKernel kernel, int cost) {
        Check.isTrue("admitted", kernel.base(0, 2000, cost, 5));
        return kernel.task(0, 3);
    }

    /** "(ceil(R, period) + 1) * budget": R is the period, and one more. */
    private static void budgetsInABound() {
        Check.same("4 + 2 * 2", boundOfTask(withSource(0, 500, 2, 8), 4), 8);
        Check.same("4 + 3 * 2", boundOfTask(withSource(0, 500, 2, 7), 4), 10);
    }

    /** "(ceil(R, distance) + 1) * top": R is the distance, and one more. */
    private static void topsInABound() {
        Check.same("2 + 2 + 2 * 2", boundOfTask(withSource(2, 8, 1, 500), 2), 8);
        Check.same("2 + 2 + 3 * 2", boundOfTask(withSource(2, 7, 1, 500), 2), 10);
    }

    /** "for each base task of higher priority ceil(R, its period) * its cost": R is the period, and one more. */
    private static void higherTasksInABound() {
        BudgetKernel kernel = new BudgetKernel();
        kernel.base(1, 5, 2, 6);
        Check.same("3 + 1 * 2", boundOfTask(kernel, 3), 5);
        BudgetKernel more = new BudgetKernel();
        more.base(1, 5, 2, 6);
        Check.same("4 + 2 * 2", boundOfTask(more, 4), 8);
        BudgetKernel lower = new BudgetKernel();
        lower.base(1, 50, 2, 4);
        Check.same("a lower one is not counted", boundOfTask(lower, 4), 4);
        Check.same("but counts this one", lower.task(1, 3), 6);
    }

    /** "BASE TASK i has the bound: ... cost + SOURCES(R)": whatever the priority of a source. */
    private static void everySourceCountsForATask() {
        for (int priority : new int[] {0, 4, 5, 6, 31}) {
            BudgetKernel kernel = new BudgetKernel();
            kernel.source(0, 1, 1, 500, 2, 500, priority);
            Check.same("a source of priority " + priority, boundOfTask(kernel, 4), 10);
        }
        BudgetKernel both = withSource(1, 500, 2, 500);
        both.source(5, 0, 1, 500, 3, 500, 31);
        Check.same("added up", boundOfTask(both, 4), 16);
    }

    /** "none, if that becomes greater than its period": just the period is not. */
    private static void taskBoundOfJustItsPeriod() {
        BudgetKernel kernel = withSource(0, 500, 2, 500);
        Check.isTrue("10 of 9", !kernel.base(0, 9, 6, 0));
        Check.isTrue("10 of 10", kernel.base(0, 10, 6, 0));
        Check.same("the bound", kernel.task(0, 3), 10);
        BudgetKernel dearer = withSource(0, 500, 2, 500);
        Check.isTrue("11 of 10", !dearer.base(0, 10, 7, 0));
        BudgetKernel alone = new BudgetKernel();
        Check.isTrue("500 of 499", !alone.base(0, 499, 500, 0));
        Check.isTrue("500 of 500", alone.base(0, 500, 500, 0));
        BudgetKernel longest = new BudgetKernel();
        longest.base(1, 2000, 500, 1);
        longest.base(2, 2000, 500, 2);
        longest.base(3, 2000, 500, 3);
        Check.isTrue("2000 of 2000", longest.base(0, 2000, 500, 0));
        Check.same("the greatest bound", longest.task(0, 3), 2000);
        Check.isTrue("2001 of 2000", !longest.base(4, 2000, 1, 4));
    }

    /** "whether all are admitted with it; otherwise nothing happens". */
    private static void taskThatIsNotAdmittedDoesNothing() {
        BudgetKernel kernel = withSource(0, 500, 2, 500);
        Check.isTrue("not admitted", !kernel.base(3, 9, 6, 7));
        Check.noElement("not told", () -> kernel.task(3, 0));
        Check.ticks("it does not run", kernel, 0);
        Check.isTrue("its number and its priority are free", kernel.base(3, 10, 6, 7));
        BudgetKernel other = withSource(0, 500, 2, 500);
        Check.isTrue("not admitted", !other.base(3, 9, 6, 7));
        Check.isTrue("another one can have the priority", other.base(2, 10, 6, 7));
    }

    /** "Tasks are ADMITTED, if all have one": the new one has, but a lower one would not. */
    private static void allTasksMustBeAdmitted() {
        BudgetKernel kernel = new BudgetKernel();
        Check.isTrue("the lower one", kernel.base(0, 10, 6, 1));
        Check.isTrue("11 of 10 for the lower one", !kernel.base(1, 100, 5, 2));
        Check.same("its bound is as it was", kernel.task(0, 3), 6);
        Check.isTrue("10 of 10 for the lower one", kernel.base(1, 100, 4, 2));
        Check.same("its bound", kernel.task(0, 3), 10);
        Check.isTrue("a lower one still finds room", kernel.base(2, 100, 5, 0));
        Check.same("5 + 2 * 6 + 4 is 21 and more: 5 + 3 * 6 + 4", kernel.task(2, 3), 27);
    }

    /** "or the base tasks that there are would not be admitted any more": a bound of the period, and of one more. */
    private static void sourceThatIsJustAdmitted() {
        for (int top = 0; top <= 1; top++) {
            int t = top;
            BudgetKernel just = new BudgetKernel();
            just.base(0, 10, 6, 0);
            just.source(0, t, 1, 500, 2 - t, 500, 0);
            Check.same("the bound is the period", just.task(0, 3), 10);
            BudgetKernel tight = new BudgetKernel();
            tight.base(0, 9, 6, 0);
            Check.badState("one more", () -> tight.source(0, t, 1, 500, 2 - t, 500, 0));
            Check.noElement("it is not told", () -> tight.about(0, 0));
            Check.same("the bound is as it was", tight.task(0, 3), 6);
            Check.same("nor is it counted", tight.floor(9), 9);
            tight.source(1, 0, 1, 500, 1, 500, 0);
            Check.same("its priority is free", tight.task(0, 3), 8);
        }
    }

    /** "the base tasks that there are would not be admitted": one of them is enough. */
    private static void sourceThatOneOfTheTasksCannotBear() {
        for (int tight = 0; tight <= 5; tight++) {
            BudgetKernel kernel = new BudgetKernel();
            for (int i = 0; i <= 5; i++) {
                Check.isTrue("task " + i, kernel.base(i, i == tight ? 9 : 2000, 1, i));
            }
            int room = 9 - kernel.task(tight, 3);
            int budget = room / 2;
            Check.badState("too much for " + tight, () -> kernel.source(0, 0, 1, 500, budget + 1, 500, 0));
            Check.noElement("it is not told", () -> kernel.event(0));
            kernel.source(0, 0, 1, 500, budget, 500, 0);
            Check.isTrue("still admitted", kernel.task(tight, 3) <= 9);
        }
    }

    /** "or the base tasks that there are": without them every source is told, however much it takes. */
    private static void anySourceWithoutBaseTasks() {
        BudgetKernel kernel = new BudgetKernel();
        for (int i = 0; i <= 5; i++) {
            kernel.source(i, 3, 30, 1, 30, 1, i);
            Check.same("told " + i, kernel.about(i, 6), 30);
        }
        Check.isTrue("no base task finds room", !kernel.base(0, 2000, 1, 31));
    }

    private static int boundOfSource(int cost, int budget, int distance, int period) {
        BudgetKernel kernel = new BudgetKernel();
        kernel.source(0, 0, cost, distance, budget, period, 0);
        return kernel.bound(0);
    }

    /** "A source whose cost is not above its budget". */
    private static void costNotAboveTheBudget() {
        Check.same("below", boundOfSource(4, 5, 100, 100), 4);
        Check.same("alike", boundOfSource(5, 5, 100, 100), 5);
        Check.same("above", boundOfSource(6, 5, 100, 100), -1);
        Check.same("alike, the greatest", boundOfSource(30, 30, 100, 100), 30);
        Check.same("above, the greatest", boundOfSource(30, 29, 100, 100), -1);
    }

    /** "and whose distance is not below its period". */
    private static void distanceNotBelowThePeriod() {
        Check.same("above", boundOfSource(5, 5, 101, 100), 5);
        Check.same("alike", boundOfSource(5, 5, 100, 100), 5);
        Check.same("below", boundOfSource(5, 5, 99, 100), -1);
        Check.same("alike, the greatest period", boundOfSource(5, 5, 500, 500), 5);
        Check.same("below, the greatest period", boundOfSource(5, 5, 499, 500), -1);
    }

    /** "none, if that becomes greater than its period"; "-1 when it has none". */
    private static void sourceBoundOfJustItsPeriod() {
        BudgetKernel just = new BudgetKernel();
        just.source(0, 1, 5, 7, 5, 7, 0);
        Check.same("7 of 7", just.bound(0), 7);
        BudgetKernel above = new BudgetKernel();
        above.source(0, 1, 5, 7, 5, 6, 0);
        Check.same("7 of 6", above.bound(0), -1);
        Check.same("a cost of the period", boundOfSource(9, 9, 9, 9), 9);
        Check.same("a cost above the period", boundOfSource(9, 9, 9, 8), -1);
    }

    /** "for each source of higher priority (ceil(R, period) + 1) * budget": R is the period, and one more. */
    private static void higherBudgetsInASourceBound() {
        int[] priorities = {6, 31, 4, 0};
        int[][] due = {{8, 10}, {8, 10}, {4, 4}, {4, 4}};
        for (int i = 0; i < priorities.length; i++) {
            for (int j = 0; j <= 1; j++) {
                BudgetKernel kernel = new BudgetKernel();
                kernel.source(0, 0, 4, 100, 4, 100, 5);
                kernel.source(1, 0, 1, 500, 2, 8 - j, priorities[i]);
                Check.same("priority " + priorities[i] + ", period " + (8 - j), kernel.bound(0), due[i][j]);
            }
        }
    }

    /** "for each source (ceil(R, distance) + 1) * top": each one, its own too; R is the distance, and one more. */
    private static void allTopsInASourceBound() {
        for (int priority : new int[] {0, 4}) {
            BudgetKernel just = new BudgetKernel();
            just.source(0, 0, 4, 100, 4, 100, 5);
            just.source(1, 2, 1, 8, 30, 500, priority);
            Check.same("4 + 2 * 2", just.bound(0), 8);
            BudgetKernel more = new BudgetKernel();
            more.source(0, 0, 4, 100, 4, 100, 5);
            more.source(1, 2, 1, 7, 30, 500, priority);
            Check.same("4 + 3 * 2", more.bound(0), 10);
        }
        BudgetKernel own = new BudgetKernel();
        own.source(0, 3, 4, 100, 4, 100, 5);
        Check.same("4 + 2 * 3", own.bound(0), 10);
        own.source(1, 1, 1, 100, 1, 500, 6);
        Check.same("4 + 2 * 1 + 2 * 3 + 2 * 1", own.bound(0), 14);
    }

    /** A source's bound has no base task in it. */
    private static void baseTasksAreNotInASourceBound() {
        BudgetKernel kernel = new BudgetKernel();
        kernel.source(0, 0, 4, 100, 4, 100, 0);
        for (int i = 0; i <= 5; i++) {
            Check.isTrue("task " + i, kernel.base(i, 2000, 100, 31 - i));
        }
        Check.same("as without them", kernel.bound(0), 4);
    }

    /** "sought from R = 1 on by taking the right side as the next R; none, if that becomes greater than its period". */
    private static void sourceBoundThatRunsAway() {
        BudgetKernel kernel = new BudgetKernel();
        kernel.source(0, 0, 1, 500, 1, 500, 0);
        kernel.source(1, 0, 1, 2, 1, 2, 1);
        Check.same("1 + 3: R = 1 + (ceil(R, 2) + 1) is 4", kernel.bound(0), 4);
        kernel.source(2, 0, 1, 2, 1, 2, 2);
        Check.same("it never stands", kernel.bound(0), -1);
        Check.same("the higher one: 1 + (1 + 1) is above 2", kernel.bound(1), -1);
        Check.same("the highest one has its bound", kernel.bound(2), 1);
    }
}
