/**
 * Events: an empty queue, a full one, one more; masked and not masked any more; what is lost; open top halves. Above
 * each test stands the sentence of the document that it holds.
 */
public final class QueueEdgeTest {
    public static void main(String[] args) {
        nothingIsThereYet();
        oneEventIsTaken();
        twentyFourAreNotMasked();
        moreThanTwentyFourAreMasked();
        queueNeverHoldsMoreThanItsMaskLets();
        maskedAtNine();
        notMaskedAtEight();
        neverMaskedOnTheWayDown();
        maskedAgainAtTwentyFive();
        maskIsEachSourcesOwn();
        lostEventChangesNothingElse();
        topsOfNoughtAreAside();
        firstTopHalfIsTheFirstEvents();
        openTopHalvesAreFull();
        openTopHalvesWrapAround();
        queueIsBusySinceItCameToBeNonEmpty();
        queueThatIsEmptyIsNotBusy();
        queueWrapsAround();
        Check.end();
    }

    private static void events(BudgetKernel kernel, int source, int many, int due) {
        for (int i = 1; i <= many; i++) {
            Check.same("event " + i + " of source " + source, kernel.event(source), due);
        }
    }

    /** A source 0 without a top half, of cost 1, whose budget is enough for 30 events. */
    private static BudgetKernel quick() {
        BudgetKernel kernel = new BudgetKernel();
        kernel.source(0, 0, 1, 1, 30, 500, 0);
        return kernel;
    }

    private static void queue(String what, BudgetKernel kernel, int taken, int lost, int held, int masked, int maskings) {
        Check.same(what + ": taken", kernel.about(0, 0), taken);
        Check.same(what + ": lost", kernel.about(0, 2), lost);
        Check.same(what + ": in the queue", kernel.about(0, 3), held);
        Check.same(what + ": masked", kernel.about(0, 4), masked);
        Check.same(what + ": how often masked", kernel.about(0, 5), maskings);
    }

    /** "-1 without one", "0 without one", "-1 when it is empty": a source that had no event. */
    private static void nothingIsThereYet() {
        Check.about("no event yet", quick(), 0, 0, 0, 0, 0, 0, 0, 30, 0, -1, 0, 0, 0, -1);
    }

    /** "AN EVENT now: 1 when it is taken". */
    private static void oneEventIsTaken() {
        BudgetKernel kernel = quick();
        events(kernel, 0, 1, 1);
        queue("one", kernel, 1, 0, 1, 0, 0);
        Check.same("busy since 0", kernel.about(0, 12), 0);
        Check.same("no unit is spent by it", kernel.about(0, 6), 30);
    }

    /** "It is MASKED from when its queue has more than 24": not at 24. */
    private static void twentyFourAreNotMasked() {
        BudgetKernel kernel = quick();
        events(kernel, 0, 24, 1);
        queue("24", kernel, 24, 0, 24, 0, 0);
        events(kernel, 0, 1, 1);
        BudgetKernel again = quick();
        events(again, 0, 24, 1);
        again.tick();
        events(again, 0, 1, 1);
        queue("24 once more", again, 25, 0, 24, 0, 0);
    }

    /** "It is MASKED from when its queue has more than 24"; "is it masked, ... it is LOST"; "0 when it is lost". */
    private static void moreThanTwentyFourAreMasked() {
        BudgetKernel kernel = quick();
        events(kernel, 0, 25, 1);
        queue("25", kernel, 25, 0, 25, 1, 1);
        events(kernel, 0, 1, 0);
        queue("one more", kernel, 25, 1, 25, 1, 1);
    }

    /** "Its QUEUE holds the times of at most 32 events": what is masked at 25 takes no more, so it has 25 at most. */
    private static void queueNeverHoldsMoreThanItsMaskLets() {
        BudgetKernel kernel = quick();
        events(kernel, 0, 25, 1);
        events(kernel, 0, 15, 0);
        queue("40 events", kernel, 25, 15, 25, 1, 1);
        Check.same("25 ran", kernel.ticks(100), 25);
        queue("all that were taken are handled", kernel, 25, 15, 0, 0, 1);
    }

    /** "until it has 8": not at 9, though a part of the ninth is done. */
    private static void maskedAtNine() {
        BudgetKernel kernel = new BudgetKernel();
        kernel.source(0, 0, 2, 1, 30, 40, 0);
        events(kernel, 0, 25, 1);
        kernel.ticks(30);
        queue("10 and no unit", kernel, 25, 0, 10, 1, 1);
        kernel.ticks(12);
        queue("9", kernel, 25, 0, 9, 1, 1);
        kernel.tick();
        Check.same("half of the ninth", kernel.about(0, 11), 1);
        queue("9 and a half", kernel, 25, 0, 9, 1, 1);
        events(kernel, 0, 1, 0);
        kernel.tick();
        queue("8", kernel, 25, 1, 8, 0, 1);
    }

    /** "until it has 8": at 8 the next event is taken. */
    private static void notMaskedAtEight() {
        BudgetKernel kernel = quick();
        events(kernel, 0, 25, 1);
        for (int held = 24; held >= 9; held--) {
            kernel.tick();
            Check.same("masked at " + held, kernel.about(0, 4), 1);
        }
        events(kernel, 0, 1, 0);
        kernel.tick();
        queue("8", kernel, 25, 1, 8, 0, 1);
        events(kernel, 0, 1, 1);
        queue("9 and not masked", kernel, 26, 1, 9, 0, 1);
    }

    /** "from when its queue has more than 24": one that never had is not masked on its way down, and loses nothing. */
    private static void neverMaskedOnTheWayDown() {
        BudgetKernel kernel = quick();
        events(kernel, 0, 24, 1);
        kernel.ticks(15);
        queue("9", kernel, 24, 0, 9, 0, 0);
        events(kernel, 0, 1, 1);
        kernel.ticks(2);
        queue("8", kernel, 25, 0, 8, 0, 0);
    }

    /** "5 how often it was masked"; masked anew only when it has more than 24 again. */
    private static void maskedAgainAtTwentyFive() {
        BudgetKernel kernel = quick();
        events(kernel, 0, 25, 1);
        kernel.ticks(17);
        events(kernel, 0, 16, 1);
        queue("24 again", kernel, 41, 0, 24, 0, 1);
        events(kernel, 0, 1, 1);
        queue("25 again", kernel, 42, 0, 25, 1, 2);
        events(kernel, 0, 1, 0);
        queue("and one more", kernel, 42, 1, 25, 1, 2);
    }

    /** "It is MASKED": each source by its own queue. */
    private static void maskIsEachSourcesOwn() {
        BudgetKernel kernel = quick();
        kernel.source(5, 0, 1, 1, 30, 500, 9);
        events(kernel, 5, 25, 1);
        events(kernel, 5, 1, 0);
        queue("of the other one", kernel, 0, 0, 0, 0, 0);
        events(kernel, 0, 25, 1);
        queue("then its own", kernel, 25, 0, 25, 1, 1);
        kernel.ticks(17);
        Check.same("the higher one is not masked any more", kernel.about(5, 4), 0);
        Check.same("the lower one still is", kernel.about(0, 4), 1);
    }

    /** "it is LOST. Otherwise it is taken: its top is added": a lost one adds no top, and no time. */
    private static void lostEventChangesNothingElse() {
        BudgetKernel kernel = new BudgetKernel();
        kernel.source(0, 1, 1, 1, 30, 500, 0);
        events(kernel, 0, 25, 1);
        kernel.ticks(3);
        events(kernel, 0, 5, 0);
        Check.about("lost", kernel, 0, 25, 0, 5, 25, 1, 1, 30, 0, -1, 0, 0, 0, 0);
        Check.same("22 tops more", kernel.ticks(22), 22);
        Check.same("25 tops in all", kernel.used(0, true, 0, 25), 25);
        Check.same("and no handler yet", kernel.used(0, false, 0, 25), 0);
        Check.ticks("then handlers", kernel, 20);
    }

    /** "tops of 0 aside". */
    private static void topsOfNoughtAreAside() {
        BudgetKernel kernel = quick();
        kernel.source(1, 1, 1, 1, 1, 500, 1);
        events(kernel, 0, 1, 1);
        events(kernel, 1, 1, 1);
        events(kernel, 0, 1, 1);
        Check.ticks("only the other one's top", kernel, 11, 21, 20, 20, 0);
        Check.same("no top of 0", kernel.used(0, true, 0, 5), 2);
    }

    /** "in the order of events"; "the first top half that is open: one tick less of it". */
    private static void firstTopHalfIsTheFirstEvents() {
        BudgetKernel kernel = new BudgetKernel();
        kernel.source(4, 1, 1, 1, 2, 500, 31);
        kernel.source(2, 3, 1, 1, 2, 500, 0);
        events(kernel, 2, 1, 1);
        events(kernel, 4, 1, 1);
        Check.ticks("the first one, though lower", kernel, 12);
        events(kernel, 4, 1, 1);
        events(kernel, 2, 1, 1);
        Check.ticks("all of it before the next", kernel, 12, 12, 14, 14, 12, 12, 12, 24, 24, 22, 22, 0);
    }

    private static BudgetKernel sixStorms() {
        BudgetKernel kernel = new BudgetKernel();
        for (int i = 0; i <= 5; i++) {
            kernel.source(i, 3, 1, 1, 30, 500, i);
        }
        for (int round = 0; round < 25; round++) {
            for (int i = 0; i <= 5; i++) {
                kernel.event(i);
            }
        }
        return kernel;
    }

    /** "its top is added to the top halves that are open": as many as six masked sources can have, 450 ticks. */
    private static void openTopHalvesAreFull() {
        BudgetKernel kernel = sixStorms();
        for (int i = 0; i <= 5; i++) {
            events(kernel, i, 1, 0);
        }
        Check.ticks("in the order of events", kernel, 10, 10, 10, 11, 11, 11, 12, 12, 12, 13, 13, 13, 14, 14, 14, 15, 15, 15, 10);
        Check.same("tops up to 450", kernel.ticks(431), 431);
        for (int i = 0; i <= 5; i++) {
            Check.same("tops of " + i, kernel.used(i, true, 0, 450), 75);
            Check.same("no handler of " + i, kernel.used(i, false, 0, 450), 0);
        }
        Check.ticks("then handlers", kernel, 25);
        Check.same("all of them", kernel.ticks(200), 149);
    }

    /** The same once more on one object: what was run through is used again, and the order stays that of events. */
    private static void openTopHalvesWrapAround() {
        BudgetKernel kernel = sixStorms();
        Check.same("first storm", kernel.ticks(500) + kernel.ticks(500), 600);
        for (int round = 0; round < 25; round++) {
            for (int i = 5; i >= 0; i--) {
                kernel.event(i);
            }
        }
        for (int round = 0; round < 4; round++) {
            Check.ticks("second storm", kernel, 15, 15, 15, 14, 14, 14, 13, 13, 13, 12, 12, 12, 11, 11, 11, 10, 10, 10);
        }
        kernel.ticks(378);
        for (int i = 0; i <= 5; i++) {
            Check.same("tops of " + i, kernel.used(i, true, 1000, 1450), 75);
        }
        Check.ticks("then handlers", kernel, 25);
    }

    /** "Its queue is BUSY since the time at which it came to be non-empty". */
    private static void queueIsBusySinceItCameToBeNonEmpty() {
        BudgetKernel kernel = quick();
        kernel.ticks(3);
        events(kernel, 0, 1, 1);
        Check.same("since the first", kernel.about(0, 12), 3);
        events(kernel, 0, 1, 1);
        kernel.tick();
        Check.same("one of two is handled", kernel.about(0, 12), 3);
        events(kernel, 0, 1, 1);
        kernel.tick();
        Check.same("it was not empty", kernel.about(0, 12), 3);
    }

    /** "12 since when its queue is busy (-1 when it is empty)"; empty and non-empty again at one time. */
    private static void queueThatIsEmptyIsNotBusy() {
        BudgetKernel kernel = quick();
        Check.same("empty at first", kernel.about(0, 12), -1);
        events(kernel, 0, 1, 1);
        kernel.tick();
        Check.same("empty again", kernel.about(0, 12), -1);
        Check.same("nothing is in it", kernel.about(0, 3), 0);
        events(kernel, 0, 1, 1);
        Check.same("at once non-empty again", kernel.about(0, 12), 1);
    }

    /** "its time comes into the queue"; "its DELAY is t + 1 less its time": beyond 32 events, each has its own time. */
    private static void queueWrapsAround() {
        BudgetKernel kernel = quick();
        kernel.source(1, 1, 1, 1, 1, 500, 31);
        for (int i = 0; i < 13; i++) {
            events(kernel, 0, 2, 1);
            kernel.tick();
        }
        queue("13 of 26 are handled", kernel, 26, 0, 13, 0, 0);
        Check.same("the 13th, of time 6, at 13", kernel.about(0, 10), 7);
        for (int i = 0; i < 10; i++) {
            events(kernel, 0, 1, 1);
            events(kernel, 1, 1, 1);
            Check.ticks("a top half", kernel, 11);
        }
        Check.ticks("the handler of the other one", kernel, 21);
        int[] times = {6, 7, 7, 8, 8, 9, 9, 10, 10, 11, 11, 12, 12, 13, 14, 15, 16};
        int greatest = 7;
        for (int i = 0; i < times.length; i++) {
            Check.ticks("handled", kernel, 20);
            greatest = Math.max(greatest, 25 + i - times[i]);
            Check.same("delay of the event of " + times[i], kernel.about(0, 10), greatest);
        }
        queue("no unit is left", kernel, 36, 0, 6, 0, 0);
        Check.same("30 of 36", kernel.about(0, 1), 30);
        kernel.ticks(500);
        Check.same("the last, of 22, waits for units", kernel.about(0, 1), 36);
        Check.same("it is handled at 506", kernel.about(0, 10), 506 - 22);
    }
}
