/**
 * Units and pieces: none, the first, the sixteenth, one more; a period less a tick, a period, a tick more. Above each
 * test stands the sentence of the document that it holds.
 */
public final class PieceEdgeTest {
    public static void main(String[] args) {
        unitsAreLeftAtFirst();
        emptyQueueIsNotReady();
        sourceWithoutAUnitIsNotReady();
        lastUnitIsReady();
        unitOfTheEarliestTimeIsSpent();
        couldBeSpentSinceTheQueueIsBusy();
        couldBeSpentSinceTheUnitIsLeft();
        lessThanAPeriodBefore();
        aPeriodBefore();
        moreThanAPeriodBefore();
        lastPieceOfTheSameTimeGrows();
        pieceOfALaterTimeIsNew();
        pieceOfAnEarlierTimeIsNew();
        sameTimeAsOneThatIsNotTheLastIsNew();
        lastOfThoseThatAreThere();
        sixteenthIsNew();
        sixteenAlreadyAndALaterTime();
        sixteenAlreadyAndAnEarlierTime();
        sixteenAlreadyAndTheSameTime();
        fifteenAgainAndANewOne();
        sixteenAreEachSourcesOwn();
        givenBackWhenTheTimeIsReached();
        allOfOneTimeAreGivenBack();
        givenBackBeforeTheTickRuns();
        firstOfThoseWithTheLeastTime();
        unitsWrapAround();
        Check.end();
    }

    private static void units(String what, BudgetKernel kernel, int left, int pieces, int time, int amount) {
        Check.same(what + ": units left", kernel.about(0, 6), left);
        Check.same(what + ": pieces", kernel.about(0, 7), pieces);
        Check.same(what + ": least time", kernel.about(0, 8), time);
        Check.same(what + ": how much that is", kernel.about(0, 9), amount);
    }

    private static BudgetKernel withSource(int cost, int budget, int period) {
        BudgetKernel kernel = new BudgetKernel();
        kernel.source(0, 0, cost, 1, budget, period, 9);
        return kernel;
    }

    /** Top halves of source 1 take the next ticks, fewer than would mask it; its handler is below that of source 0. */
    private static void holdUp(BudgetKernel kernel, int ticks) {
        for (int i = 0; i < ticks; i++) {
            kernel.event(1);
        }
        for (int i = 0; i < ticks; i++) {
            Check.ticks("held up", kernel, 11);
        }
    }

    private static BudgetKernel withTwoSources(int cost, int budget, int period) {
        BudgetKernel kernel = withSource(cost, budget, period);
        kernel.source(1, 1, 1, 1, 1, 500, 0);
        return kernel;
    }

    /** "ITS BUDGET is so many UNITS, each of which is LEFT since a time (0 at first)"; "-1 without one". */
    private static void unitsAreLeftAtFirst() {
        units("at first", withSource(1, 7, 20), 7, 0, -1, 0);
        BudgetKernel late = new BudgetKernel();
        late.ticks(300);
        late.source(0, 0, 1, 1, 7, 20, 9);
        units("told late", late, 7, 0, -1, 0);
    }

    /** "A source is READY, when its queue is not empty": units alone are not enough. */
    private static void emptyQueueIsNotReady() {
        BudgetKernel kernel = withSource(1, 7, 20);
        Check.ticks("no event", kernel, 0);
        kernel.event(0);
        Check.ticks("one event", kernel, 20, 0);
        units("one unit is spent", kernel, 6, 1, 21, 1);
    }

    /** "and a unit is left": events alone are not enough, and a lower source goes before it. */
    private static void sourceWithoutAUnitIsNotReady() {
        BudgetKernel kernel = withSource(3, 2, 20);
        kernel.source(1, 0, 1, 1, 1, 500, 0);
        kernel.base(0, 2000, 1, 0);
        kernel.event(0);
        kernel.event(1);
        Check.ticks("two units", kernel, 20, 20, 21, 30, 0);
        units("none is left", kernel, 0, 1, 20, 2);
        Check.same("one tick of three is missing", kernel.about(0, 11), 2);
        Check.same("nothing up to 20", kernel.ticks(15), 0);
        Check.ticks("then it goes on", kernel, 20, 0);
        Check.same("handled", kernel.about(0, 1), 1);
    }

    /** "and a unit is left": one is. */
    private static void lastUnitIsReady() {
        BudgetKernel kernel = withSource(1, 1, 20);
        kernel.event(0);
        kernel.event(0);
        Check.ticks("the one unit", kernel, 20, 0);
        units("none is left", kernel, 0, 1, 20, 1);
    }

    /** "spends the unit that is left since the earliest time". */
    private static void unitOfTheEarliestTimeIsSpent() {
        BudgetKernel kernel = withTwoSources(30, 3, 10);
        kernel.event(0);
        Check.ticks("one of three units", kernel, 20);
        units("it is given back at 10", kernel, 2, 1, 10, 1);
        holdUp(kernel, 11);
        units("two are left since 0, one since 10", kernel, 3, 0, -1, 0);
        Check.ticks("at 12", kernel, 20);
        units("one since 0 goes first, and waited a period", kernel, 2, 1, 22, 1);
        Check.ticks("at 13", kernel, 20);
        units("the other one since 0", kernel, 1, 2, 22, 1);
        Check.ticks("at 14", kernel, 20);
        units("then the one since 10", kernel, 0, 3, 20, 1);
    }

    /** "since the later one of this time and of the one since which the queue is busy": the queue's. */
    private static void couldBeSpentSinceTheQueueIsBusy() {
        BudgetKernel kernel = withTwoSources(1, 3, 20);
        kernel.ticks(5);
        kernel.event(0);
        holdUp(kernel, 4);
        Check.ticks("at 9", kernel, 20);
        units("busy since 5, left since 0", kernel, 2, 1, 25, 1);
    }

    /** "since the later one of this time and of the one since which the queue is busy": the unit's. */
    private static void couldBeSpentSinceTheUnitIsLeft() {
        BudgetKernel kernel = withTwoSources(3, 1, 20);
        kernel.event(0);
        Check.ticks("at 0", kernel, 20);
        units("both since 0", kernel, 0, 1, 20, 1);
        Check.same("no unit up to 20", kernel.ticks(19), 0);
        holdUp(kernel, 4);
        Check.ticks("at 24", kernel, 20);
        units("left since 20, busy since 0", kernel, 0, 1, 40, 1);
    }

    /** The handler of an event of time 3 first runs at 10. */
    private static BudgetKernel heldUpFromThreeToTen(int period) {
        BudgetKernel kernel = withTwoSources(2, 5, period);
        kernel.ticks(3);
        kernel.event(0);
        holdUp(kernel, 7);
        Check.ticks("at 10", kernel, 20);
        return kernel;
    }

    /** "or, if that is a period or more before t, since t": a tick less than a period before. */
    private static void lessThanAPeriodBefore() {
        BudgetKernel two = heldUpFromThreeToTen(9);
        units("two ticks less: since 3", two, 4, 1, 12, 1);
        BudgetKernel one = heldUpFromThreeToTen(8);
        units("a tick less: since 3, given back at 11", one, 5, 0, -1, 0);
    }

    /** "if that is a period or more before t, since t": just a period. */
    private static void aPeriodBefore() {
        units("since 10", heldUpFromThreeToTen(7), 4, 1, 17, 1);
    }

    /** "if that is a period or more before t, since t": more. */
    private static void moreThanAPeriodBefore() {
        BudgetKernel kernel = heldUpFromThreeToTen(6);
        units("since 10", kernel, 4, 1, 16, 1);
        Check.ticks("at 11", kernel, 20);
        units("the next since 11", kernel, 3, 2, 16, 1);
    }

    /** "If the piece that came last is of the same time ..., it grows by 1". */
    private static void lastPieceOfTheSameTimeGrows() {
        BudgetKernel kernel = withSource(1, 5, 20);
        kernel.event(0);
        kernel.event(0);
        kernel.event(0);
        kernel.tick();
        units("one", kernel, 4, 1, 20, 1);
        kernel.tick();
        units("grown by 1", kernel, 3, 1, 20, 2);
        kernel.tick();
        units("once more", kernel, 2, 1, 20, 3);
    }

    /** "otherwise there is a new one": of a later time, if only by a tick. */
    private static void pieceOfALaterTimeIsNew() {
        BudgetKernel kernel = withSource(1, 5, 20);
        kernel.event(0);
        kernel.tick();
        kernel.event(0);
        kernel.tick();
        units("20 and 21", kernel, 3, 2, 20, 1);
        kernel.ticks(18);
        units("21", kernel, 4, 1, 21, 1);
    }

    /** "otherwise there is a new one": of an earlier time. */
    private static void pieceOfAnEarlierTimeIsNew() {
        BudgetKernel kernel = withTwoSources(30, 2, 10);
        kernel.event(0);
        Check.ticks("at 0", kernel, 20);
        holdUp(kernel, 11);
        Check.ticks("at 12: a unit left since 0", kernel, 20);
        units("22", kernel, 1, 1, 22, 1);
        Check.ticks("at 13: a unit left since 10", kernel, 20);
        units("20 behind 22", kernel, 0, 2, 20, 1);
    }

    /** At 15, with five events to handle: one unit is left since 10, two since 15, and all others since 0. */
    private static BudgetKernel unitsOfThreeTimes(int budget) {
        BudgetKernel kernel = withTwoSources(1, budget, 10);
        kernel.event(0);
        Check.ticks("at 0", kernel, 20);
        kernel.ticks(4);
        for (int i = 0; i < 7; i++) {
            kernel.event(0);
        }
        Check.ticks("at 5 and 6: two left since 0, busy since 5", kernel, 20, 20);
        units("10 and 15", kernel, budget - 3, 2, 10, 1);
        holdUp(kernel, 8);
        units("all are left", kernel, budget, 0, -1, 0);
        return kernel;
    }

    /** "If the piece that came last is of the same time": not one before it. */
    private static void sameTimeAsOneThatIsNotTheLastIsNew() {
        BudgetKernel kernel = unitsOfThreeTimes(5);
        Check.ticks("at 15: left since 0, waited a period", kernel, 20);
        units("25", kernel, 4, 1, 25, 1);
        Check.ticks("at 16: left since 0 too", kernel, 20);
        units("25 and 26", kernel, 3, 2, 25, 1);
        Check.ticks("at 17: left since 10", kernel, 20);
        units("25, 26 and 20", kernel, 2, 3, 20, 1);
        Check.ticks("at 18: left since 15", kernel, 20);
        units("a new one of 25 behind them", kernel, 1, 4, 20, 1);
        Check.ticks("at 19: left since 15 too", kernel, 20);
        units("it grows, and 20 is given back", kernel, 1, 3, 25, 1);
    }

    /** "If the piece that came last is of the same time ..., it grows by 1": one that was given back is none any more. */
    private static void lastOfThoseThatAreThere() {
        BudgetKernel kernel = unitsOfThreeTimes(4);
        Check.ticks("at 15: left since 0, waited a period", kernel, 20);
        units("25", kernel, 3, 1, 25, 1);
        Check.ticks("at 16: left since 10", kernel, 20);
        units("20 behind 25", kernel, 2, 2, 20, 1);
        holdUp(kernel, 3);
        units("at 20 the one behind is given back", kernel, 3, 1, 25, 1);
        Check.ticks("at 20: left since 15", kernel, 20);
        units("25 came last of those that are there, and grows", kernel, 2, 1, 25, 2);
        Check.ticks("at 21: left since 15 too", kernel, 20);
        units("once more", kernel, 1, 1, 25, 3);
        Check.ticks("at 22: left since 20", kernel, 20);
        units("30 is new", kernel, 0, 2, 25, 3);
    }

    /** Events one by one, each handled at once: each has a piece of its own. */
    private static BudgetKernel withPieces(int many, int period) {
        BudgetKernel kernel = withSource(1, 30, period);
        for (int i = 0; i < many; i++) {
            kernel.event(0);
            Check.ticks("piece " + i, kernel, 20);
        }
        return kernel;
    }

    /** "otherwise there is a new one; if there are 16 already": there are 15. */
    private static void sixteenthIsNew() {
        units("fifteen", withPieces(15, 100), 15, 15, 100, 1);
        units("sixteen", withPieces(16, 100), 14, 16, 100, 1);
    }

    /** "if there are 16 already, the one that came last grows by 1, and gets the later one of both times": the new. */
    private static void sixteenAlreadyAndALaterTime() {
        BudgetKernel kernel = withPieces(17, 100);
        units("still sixteen", kernel, 13, 16, 100, 1);
        kernel.ticks(97);
        units("at 114 the last alone is left", kernel, 28, 1, 116, 2);
        kernel.tick();
        units("at 115, its first time", kernel, 28, 1, 116, 2);
        kernel.tick();
        units("at 116", kernel, 30, 0, -1, 0);
    }

    /** "gets the later one of both times": the one that it had. */
    private static void sixteenAlreadyAndAnEarlierTime() {
        BudgetKernel kernel = withTwoSources(30, 18, 40);
        kernel.source(2, 1, 1, 1, 1, 500, 1);
        kernel.event(0);
        Check.ticks("at 0 and 1", kernel, 20, 20);
        units("given back at 40", kernel, 16, 1, 40, 2);
        holdUp(kernel, 20);
        for (int i = 0; i < 18; i++) {
            kernel.event(2);
        }
        Check.same("tops of a third source up to 40", kernel.ticks(18), 18);
        units("sixteen left since 0, two since 40", kernel, 18, 0, -1, 0);
        Check.same("sixteen that waited a period", kernel.ticks(16), 16);
        units("80 to 95", kernel, 2, 16, 80, 1);
        Check.ticks("at 56: left since 40", kernel, 20);
        units("80 does not go into the first", kernel, 1, 16, 80, 1);
        Check.ticks("at 57: left since 40 too", kernel, 20);
        units("nor does the next", kernel, 0, 16, 80, 1);
        kernel.ticks(36);
        Check.same("ten more ticks handle it", kernel.about(0, 1), 1);
        units("at 94: ten new pieces and the last", kernel, 5, 11, 95, 3);
        kernel.tick();
        units("at 95", kernel, 8, 10, 120, 1);
    }

    /** "If the piece that came last is of the same time ..., it grows by 1": with 16 of them, too. */
    private static void sixteenAlreadyAndTheSameTime() {
        BudgetKernel kernel = withPieces(15, 100);
        kernel.event(0);
        kernel.event(0);
        Check.ticks("two of one busy time", kernel, 20, 20);
        units("sixteen", kernel, 13, 16, 100, 1);
        kernel.ticks(97);
        units("at 114", kernel, 28, 1, 115, 2);
        kernel.tick();
        units("at 115", kernel, 30, 0, -1, 0);
    }

    /** "if there are 16 already": given back ones are not there any more. */
    private static void fifteenAgainAndANewOne() {
        BudgetKernel kernel = withPieces(16, 40);
        kernel.ticks(24);
        units("the first is given back at 40", kernel, 15, 15, 41, 1);
        kernel.event(0);
        Check.ticks("at 40", kernel, 20);
        units("41 is given back, 80 is new", kernel, 15, 15, 42, 1);
        kernel.event(0);
        Check.ticks("at 41", kernel, 20);
        units("42 is given back, 81 is new", kernel, 15, 15, 43, 1);
        kernel.ticks(14);
        units("at 56 both are left", kernel, 28, 2, 80, 1);
    }

    /** "(and of the same source)": other sources' pieces neither grow nor count. */
    private static void sixteenAreEachSourcesOwn() {
        BudgetKernel kernel = withPieces(16, 100);
        kernel.source(1, 0, 2, 1, 5, 84, 0);
        kernel.event(1);
        Check.ticks("at 16 and 17", kernel, 21, 21);
        Check.same("one piece of its own", kernel.about(1, 7), 1);
        Check.same("at 100, as the first of the other one", kernel.about(1, 8), 100);
        Check.same("of two", kernel.about(1, 9), 2);
        units("the other one's are as before", kernel, 14, 16, 100, 1);
    }

    /** "which is GIVEN BACK one period after it could be spent"; "When a time is reached": not a tick earlier. */
    private static void givenBackWhenTheTimeIsReached() {
        BudgetKernel kernel = withSource(1, 5, 20);
        kernel.ticks(7);
        kernel.event(0);
        kernel.ticks(19);
        Check.same("at 26", kernel.time(), 26);
        units("not yet", kernel, 4, 1, 27, 1);
        kernel.tick();
        units("at 27", kernel, 5, 0, -1, 0);
        BudgetKernel shortest = withSource(1, 1, 1);
        shortest.event(0);
        shortest.tick();
        units("a period of 1 is over as the tick ends", shortest, 1, 0, -1, 0);
        BudgetKernel second = withSource(1, 1, 2);
        second.event(0);
        second.tick();
        units("a period of 2 is not", second, 0, 1, 2, 1);
    }

    /** "all pieces whose time it is, or was, are given back". */
    private static void allOfOneTimeAreGivenBack() {
        BudgetKernel kernel = unitsOfThreeTimes(5);
        kernel.ticks(5);
        units("25, 26 and 25", kernel, 1, 3, 25, 1);
        kernel.ticks(4);
        units("at 24 none of them", kernel, 1, 3, 25, 1);
        kernel.tick();
        units("at 25 the first, of 1, and the third, of 2", kernel, 4, 1, 26, 1);
        kernel.tick();
        units("at 26 the second", kernel, 5, 0, -1, 0);
    }

    /** "When a time is reached, before all else": the tick of that time can spend it. */
    private static void givenBackBeforeTheTickRuns() {
        BudgetKernel kernel = withSource(3, 1, 5);
        kernel.event(0);
        Check.ticks("each fifth tick", kernel, 20, 0, 0, 0, 0, 20, 0, 0, 0, 0, 20, 0);
        BudgetKernel shortest = withSource(3, 1, 1);
        shortest.event(0);
        Check.ticks("each tick", shortest, 20, 20, 20, 0);
    }

    /** "8 the time at which the first one of those with the least time is given back (-1 without one), 9 how much". */
    private static void firstOfThoseWithTheLeastTime() {
        BudgetKernel kernel = unitsOfThreeTimes(5);
        kernel.ticks(4);
        units("25, 26, 20 and 25: the third", kernel, 1, 4, 20, 1);
        kernel.tick();
        units("25 of 1, 26 and 25 of 2: the first", kernel, 1, 3, 25, 1);
    }

    /** More units are given back than the budget has, one after the other, and it never has more than its budget. */
    private static void unitsWrapAround() {
        BudgetKernel kernel = withSource(1, 3, 4);
        for (int i = 0; i < 24; i++) {
            kernel.event(0);
        }
        for (int round = 0; round < 8; round++) {
            Check.ticks("three of each four, round " + round, kernel, 20, 20, 20, 0);
            units("given back", kernel, 3, 0, -1, 0);
        }
        Check.same("all are handled", kernel.about(0, 1), 24);
        kernel.ticks(100);
        units("no more than the budget", kernel, 3, 0, -1, 0);
    }
}
