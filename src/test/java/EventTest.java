/** Promise 4 (event), and what promise 7 (about) tells of queues and masks. */
public final class EventTest {
    public static void main(String[] args) {
        takenEventIsQueued();
        stormIsMaskedUntilEightAreLeft();
        maskIsOfOneSource();
        topHalvesGoByEvents();
        lostEventHasNoTopHalf();
        queueIsBusySinceItsFirst();
        wrongSourcesAreRefused();
        wrongQuestionsAreRefused();
        Check.end();
    }

    private static void takenEventIsQueued() {
        BudgetKernel kernel = new BudgetKernel();
        kernel.source(1, 0, 2, 1, 5, 100, 0);
        kernel.ticks(3);
        Check.same("taken", kernel.event(1), 1);
        Check.about("one", kernel, 1, 1, 0, 0, 1, 0, 0, 5, 0, -1, 0, 0, 0, 3);
        kernel.tick();
        Check.about("half", kernel, 1, 1, 0, 0, 1, 0, 0, 4, 1, 103, 1, 0, 1, 3);
        kernel.event(1);
        kernel.tick();
        Check.about("first is handled", kernel, 1, 2, 1, 0, 1, 0, 0, 3, 1, 103, 2, 2, 0, 3);
        kernel.ticks(2);
        Check.about("both are", kernel, 1, 2, 2, 0, 0, 0, 0, 1, 1, 103, 4, 3, 0, -1);
    }

    private static void stormIsMaskedUntilEightAreLeft() {
        BudgetKernel kernel = new BudgetKernel();
        kernel.source(0, 0, 1, 1, 30, 500, 0);
        for (int i = 1; i <= 24; i++) {
            Check.same("event " + i, kernel.event(0), 1);
        }
        Check.same("24 are not masked", kernel.about(0, 4), 0);
        Check.same("the 25th is taken", kernel.event(0), 1);
        Check.about("masked", kernel, 0, 25, 0, 0, 25, 1, 1, 30, 0, -1, 0, 0, 0, 0);
        Check.same("the 26th is lost", kernel.event(0), 0);
        kernel.ticks(16);
        Check.about("nine", kernel, 0, 25, 16, 1, 9, 1, 1, 14, 1, 500, 16, 16, 0, 0);
        Check.same("lost at nine", kernel.event(0), 0);
        kernel.tick();
        Check.about("eight", kernel, 0, 25, 17, 2, 8, 0, 1, 13, 1, 500, 17, 17, 0, 0);
        for (int i = 9; i <= 25; i++) {
            Check.same("taken again, " + i, kernel.event(0), 1);
        }
        Check.about("masked again", kernel, 0, 42, 17, 2, 25, 1, 2, 13, 1, 500, 17, 17, 0, 0);
        Check.same("lost again", kernel.event(0), 0);
    }

    private static void maskIsOfOneSource() {
        BudgetKernel kernel = new BudgetKernel();
        kernel.source(0, 0, 1, 1, 30, 500, 0);
        kernel.source(1, 0, 1, 1, 30, 500, 1);
        for (int i = 0; i < 26; i++) {
            kernel.event(0);
        }
        Check.same("the other one is taken", kernel.event(1), 1);
        Check.same("the other one is not masked", kernel.about(1, 4), 0);
        Check.same("nor lost", kernel.about(1, 2), 0);
    }

    private static void topHalvesGoByEvents() {
        BudgetKernel kernel = new BudgetKernel();
        kernel.source(0, 1, 1, 1, 1, 500, 0);
        kernel.source(1, 2, 1, 1, 1, 500, 1);
        kernel.source(2, 0, 1, 1, 1, 500, 31);
        kernel.event(0);
        kernel.event(1);
        kernel.event(0);
        kernel.event(2);
        kernel.event(1);
        Check.ticks("in the order of events", kernel, 10, 11);
        kernel.event(0);
        Check.ticks("later events behind", kernel, 11, 10, 11, 11, 10, 22, 21, 20, 0);
    }

    private static void lostEventHasNoTopHalf() {
        BudgetKernel kernel = new BudgetKernel();
        kernel.source(5, 1, 30, 1, 1, 500, 0);
        for (int i = 0; i < 30; i++) {
            kernel.event(5);
        }
        Check.same("25 tops and a unit", kernel.ticks(100), 26);
        Check.same("tops", kernel.used(5, true, 0, 100), 26);
        Check.same("handler", kernel.used(5, false, 0, 100), 1);
        Check.same("lost", kernel.about(5, 2), 5);
    }

    private static void queueIsBusySinceItsFirst() {
        BudgetKernel kernel = new BudgetKernel();
        kernel.source(0, 0, 2, 1, 30, 500, 0);
        kernel.ticks(5);
        kernel.event(0);
        kernel.tick();
        kernel.event(0);
        Check.same("since the first", kernel.about(0, 12), 5);
        kernel.tick();
        Check.same("still, with the second", kernel.about(0, 12), 5);
        kernel.ticks(2);
        Check.same("empty", kernel.about(0, 12), -1);
        kernel.event(0);
        Check.same("anew", kernel.about(0, 12), 9);
    }

    private static void wrongSourcesAreRefused() {
        BudgetKernel kernel = new BudgetKernel();
        kernel.source(0, 0, 1, 1, 1, 1, 0);
        for (int source : new int[] {-1, 1, 5, 6, Integer.MIN_VALUE, Integer.MAX_VALUE}) {
            Check.noElement("event " + source, () -> kernel.event(source));
        }
        Check.same("nothing was taken", kernel.about(0, 0), 0);
        Check.same("nothing runs", kernel.tick(), 0);
    }

    private static void wrongQuestionsAreRefused() {
        BudgetKernel kernel = new BudgetKernel();
        kernel.source(0, 0, 1, 1, 1, 1, 0);
        for (int what : new int[] {-1, 13, Integer.MIN_VALUE, Integer.MAX_VALUE}) {
            Check.badIndex("about what " + what, () -> kernel.about(0, what));
            Check.noElement("no such source first, " + what, () -> kernel.about(1, what));
        }
    }
}
