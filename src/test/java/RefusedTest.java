import java.util.ArrayList;
import java.util.List;
import java.util.NoSuchElementException;
import java.util.function.Consumer;

/**
 * "A call that throws changes nothing; where several exceptions that a call names fit, it is the one that it names
 * first." Each refused call is made on one of two objects that are alike; then both must answer alike, for long.
 */
public final class RefusedTest {
    private static final int FREE = 4;
    private static final int FREE_PRIORITY = 20;
    private static final int[] NO_SOURCES = {-1, FREE, 6, Integer.MIN_VALUE, Integer.MAX_VALUE};
    private static final int[] NO_NUMBERS = {-1, 6, Integer.MIN_VALUE, Integer.MAX_VALUE};

    public static void main(String[] args) {
        thereIsMuchToChange();
        refusedSourceChangesNothing();
        refusedBaseTaskChangesNothing();
        baseTaskThatIsNotAdmittedChangesNothing();
        refusedEventChangesNothing();
        refusedTicksChangeNothing();
        refusedQuestionChangesNothing();
        questionChangesNothing();
        firstNamedOfSource();
        firstNamedOfBase();
        firstNamedOfAbout();
        firstNamedOfTask();
        firstNamedOfUsed();
        refusedOnANewObject();
        Check.end();
    }

    /** Open top halves, a masked source, sixteen pieces, events and work half done; source and base task 4 are free. */
    private static BudgetKernel rich() {
        BudgetKernel kernel = new BudgetKernel();
        kernel.source(0, 2, 3, 100, 6, 80, 5);
        kernel.source(1, 1, 1, 100, 30, 400, 9);
        kernel.source(3, 0, 30, 500, 2, 300, 2);
        kernel.base(0, 1000, 40, 4);
        kernel.base(2, 120, 10, 7);
        for (int i = 0; i < 17; i++) {
            kernel.event(1);
            kernel.ticks(2);
        }
        for (int i = 0; i < 26; i++) {
            kernel.event(3);
        }
        kernel.ticks(5);
        for (int i = 0; i < 4; i++) {
            kernel.event(0);
            kernel.event(1);
        }
        kernel.ticks(13);
        kernel.event(1);
        kernel.event(0);
        kernel.tick();
        kernel.event(0);
        return kernel;
    }

    /** So that a change would be seen. */
    private static void thereIsMuchToChange() {
        BudgetKernel kernel = rich();
        Check.same("a source with a bound", kernel.bound(0), 69);
        Check.same("sixteen pieces", kernel.about(1, 7), 16);
        Check.same("a masked source", kernel.about(3, 4), 1);
        Check.same("which has lost an event", kernel.about(3, 2), 1);
        Check.same("and has one half done", kernel.about(3, 11), 2);
        Check.same("a base task of which nothing is done", kernel.task(0, 0), 40);
        Check.same("and one of which a part is", kernel.task(2, 0), 7);
        Check.ticks("open top halves", kernel, 10, 10, 10, 10, 21);
    }

    /** All that an object tells of itself. */
    private static List<Integer> answers(BudgetKernel kernel) {
        List<Integer> all = new ArrayList<>();
        all.add(kernel.time());
        all.add(kernel.floor(1000));
        for (int source : new int[] {0, 1, 3}) {
            for (int what = 0; what <= 12; what++) {
                all.add(kernel.about(source, what));
            }
            all.add(kernel.bound(source));
            all.add(kernel.used(source, true, 0, kernel.time()));
            all.add(kernel.used(source, false, 0, kernel.time()));
        }
        for (int task : new int[] {0, 2}) {
            for (int what = 0; what <= 3; what++) {
                all.add(kernel.task(task, what));
            }
        }
        return all;
    }

    private static void alike(String what, BudgetKernel touched, BudgetKernel other) {
        Check.isTrue(what + " changes no answer", answers(touched).equals(answers(other)));
        for (int i = 0; i < 120; i++) {
            Check.same(what + ", then tick " + i, touched.tick(), other.tick());
        }
        Check.same(what + ", then many", touched.ticks(300), other.ticks(300));
        Check.isTrue(what + " changes no later answer", answers(touched).equals(answers(other)));
        Check.noElement(what + " tells no source", () -> touched.about(FREE, 0));
        Check.noElement(what + " tells no base task", () -> touched.task(FREE, 0));
        touched.source(FREE, 0, 1, 500, 1, 500, FREE_PRIORITY);
        Check.same(what + ", then it can be told", touched.event(FREE), 1);
        Check.isTrue(what + ", then a base task can", touched.base(FREE, 2000, 1, FREE_PRIORITY));
    }

    private static void refused(String what, Class<? extends RuntimeException> due, Consumer<BudgetKernel> call) {
        BudgetKernel touched = rich();
        Check.thrown(what, due, () -> call.accept(touched));
        alike(what, touched, rich());
    }

    private static void noElement(String what, Consumer<BudgetKernel> call) {
        refused(what, NoSuchElementException.class, call);
    }

    private static void badArgument(String what, Consumer<BudgetKernel> call) {
        refused(what, IllegalArgumentException.class, call);
    }

    private static void badState(String what, Consumer<BudgetKernel> call) {
        refused(what, IllegalStateException.class, call);
    }

    private static void badIndex(String what, Consumer<BudgetKernel> call) {
        refused(what, IndexOutOfBoundsException.class, call);
    }

    private static void refusedSourceChangesNothing() {
        for (int number : NO_NUMBERS) {
            noElement("source " + number, k -> k.source(number, 0, 1, 500, 1, 500, FREE_PRIORITY));
        }
        int[] below = {-1, 0, 0, 0, 0, -1};
        int[] above = {4, 31, 2001, 31, 501, 32};
        for (int i = 0; i < below.length; i++) {
            for (int number : new int[] {below[i], above[i]}) {
                int[] n = {0, 1, 500, 1, 500, FREE_PRIORITY};
                n[i] = number;
                badArgument("source with number " + i + " as " + number,
                        k -> k.source(FREE, n[0], n[1], n[2], n[3], n[4], n[5]));
            }
        }
        badState("source that was told", k -> k.source(3, 0, 1, 500, 1, 500, FREE_PRIORITY));
        badState("source with another one's priority", k -> k.source(FREE, 0, 1, 500, 1, 500, 9));
        badState("source that base tasks cannot bear", k -> k.source(FREE, 3, 1, 1, 1, 500, FREE_PRIORITY));
    }

    private static void refusedBaseTaskChangesNothing() {
        for (int number : NO_NUMBERS) {
            noElement("base " + number, k -> k.base(number, 2000, 1, FREE_PRIORITY));
        }
        int[] below = {0, 0, -1};
        int[] above = {2001, 501, 32};
        for (int i = 0; i < below.length; i++) {
            for (int number : new int[] {below[i], above[i]}) {
                int[] n = {2000, 1, FREE_PRIORITY};
                n[i] = number;
                badArgument("base task with number " + i + " as " + number, k -> k.base(FREE, n[0], n[1], n[2]));
            }
        }
        badState("base task that was told", k -> k.base(2, 2000, 1, FREE_PRIORITY));
        badState("base task with another one's priority", k -> k.base(FREE, 2000, 1, 7));
    }

    /** "whether all are admitted with it; otherwise nothing happens". */
    private static void baseTaskThatIsNotAdmittedChangesNothing() {
        int[][] tasks = {{1, 1}, {2000, 500}, {10, 5}};
        for (int[] task : tasks) {
            BudgetKernel touched = rich();
            Check.isTrue("not admitted", !touched.base(FREE, task[0], task[1], FREE_PRIORITY));
            alike("a base task of " + task[0] + ", " + task[1], touched, rich());
        }
    }

    private static void refusedEventChangesNothing() {
        for (int number : NO_SOURCES) {
            noElement("event " + number, k -> k.event(number));
        }
    }

    private static void refusedTicksChangeNothing() {
        for (int n : new int[] {-1, 501, Integer.MIN_VALUE, Integer.MAX_VALUE}) {
            badArgument("ticks " + n, k -> k.ticks(n));
        }
    }

    private static void refusedQuestionChangesNothing() {
        for (int number : NO_SOURCES) {
            noElement("about " + number, k -> k.about(number, 0));
            noElement("bound " + number, k -> k.bound(number));
            noElement("used " + number, k -> k.used(number, true, 0, 1));
            noElement("task " + number, k -> k.task(number, 0));
        }
        for (int what : new int[] {-1, 13}) {
            badIndex("about " + what, k -> k.about(0, what));
        }
        for (int what : new int[] {-1, 4}) {
            badIndex("task " + what, k -> k.task(0, what));
        }
        badIndex("used before 0", k -> k.used(0, true, -1, 1));
        badIndex("used backwards", k -> k.used(0, true, 2, 1));
        badIndex("used after the time", k -> k.used(0, true, 0, 500));
        badArgument("floor -1", k -> k.floor(-1));
        badArgument("floor 100001", k -> k.floor(100001));
    }

    /** A question that is answered changes nothing either. */
    private static void questionChangesNothing() {
        BudgetKernel asked = rich();
        answers(asked);
        alike("asking for all", asked, rich());
    }

    /** "NoSuchElementException when it is not 0 .. 5; IllegalArgumentException when ...; IllegalStateException when ...". */
    private static void firstNamedOfSource() {
        noElement("no number and no bounds", k -> k.source(6, 4, 0, 0, 0, 0, 32));
        noElement("no number and another one's priority", k -> k.source(-1, 0, 1, 500, 1, 500, 9));
        noElement("no number and not to be borne", k -> k.source(6, 3, 1, 1, 30, 1, FREE_PRIORITY));
        noElement("all of them", k -> k.source(-1, 4, 31, 1, 31, 1, 9));
        int[] wrong = {-1, 31, 2001, 0, 501, 32};
        for (int i = 0; i < wrong.length; i++) {
            int[] told = {0, 1, 500, 1, 500, FREE_PRIORITY};
            told[i] = wrong[i];
            badArgument("told and number " + i, k -> k.source(3, told[0], told[1], told[2], told[3], told[4], told[5]));
            int[] borne = {3, 1, 1, 30, 1, FREE_PRIORITY};
            borne[i] = wrong[i];
            badArgument("not to be borne and number " + i,
                    k -> k.source(FREE, borne[0], borne[1], borne[2], borne[3], borne[4], borne[5]));
        }
        badArgument("another one's priority and a number", k -> k.source(FREE, 0, 0, 500, 1, 500, 9));
        badState("told, with its own priority", k -> k.source(3, 0, 30, 500, 2, 300, 2));
        badState("told, with another one's, and not to be borne", k -> k.source(3, 3, 1, 1, 30, 1, 9));
    }

    /** "NoSuchElementException when it is not 0 .. 5; IllegalArgumentException; IllegalStateException when ...". */
    private static void firstNamedOfBase() {
        noElement("no number and no bounds", k -> k.base(6, 0, 0, 32));
        noElement("no number and another one's priority", k -> k.base(-1, 2000, 1, 7));
        noElement("no number and not admitted", k -> k.base(6, 1, 500, FREE_PRIORITY));
        int[] wrong = {0, 501, 32};
        for (int i = 0; i < wrong.length; i++) {
            int[] n = {1, 500, FREE_PRIORITY};
            n[i] = wrong[i];
            badArgument("told and number " + i, k -> k.base(2, n[0], n[1], n[2]));
            badArgument("not admitted and number " + i, k -> k.base(FREE, n[0], n[1], n[2]));
        }
        badArgument("another one's priority and a number", k -> k.base(FREE, 2001, 1, 7));
        badState("told, with its own priority", k -> k.base(2, 120, 10, 7));
        badState("told and not admitted", k -> k.base(2, 1, 500, FREE_PRIORITY));
        badState("another one's priority and not admitted", k -> k.base(FREE, 1, 500, 7));
    }

    /** "NoSuchElementException; IndexOutOfBoundsException for another what". */
    private static void firstNamedOfAbout() {
        for (int number : NO_SOURCES) {
            noElement("about " + number + " and what -1", k -> k.about(number, -1));
            noElement("about " + number + " and what 13", k -> k.about(number, 13));
        }
    }

    /** "NoSuchElementException; IndexOutOfBoundsException for another what". */
    private static void firstNamedOfTask() {
        for (int number : NO_SOURCES) {
            noElement("task " + number + " and what -1", k -> k.task(number, -1));
            noElement("task " + number + " and what 4", k -> k.task(number, 4));
        }
    }

    /** "NoSuchElementException; IndexOutOfBoundsException when ...". */
    private static void firstNamedOfUsed() {
        for (int number : NO_SOURCES) {
            noElement("used " + number + " before 0", k -> k.used(number, true, -1, 1));
            noElement("used " + number + " backwards", k -> k.used(number, true, 2, 1));
            noElement("used " + number + " after the time", k -> k.used(number, true, 0, 500));
        }
    }

    /** "No sources, no base tasks"; "there is no such source (that was not told yet, too), or base task (likewise)". */
    private static void refusedOnANewObject() {
        BudgetKernel kernel = new BudgetKernel();
        for (int i = 0; i <= 5; i++) {
            int number = i;
            Check.noElement("event " + i, () -> kernel.event(number));
            Check.noElement("about " + i, () -> kernel.about(number, 0));
            Check.noElement("bound " + i, () -> kernel.bound(number));
            Check.noElement("used " + i, () -> kernel.used(number, false, 0, 0));
            Check.noElement("task " + i, () -> kernel.task(number, 0));
        }
        for (int i = 0; i <= 5; i++) {
            int number = i;
            kernel.source(i, 0, 1, 500, 1, 500, i);
            Check.isTrue("base task " + i, kernel.base(i, 2000, 1, i));
            Check.same("event " + i, kernel.event(i), 1);
            Check.same("task " + i, kernel.task(i, 0), 0);
            if (i < 5) {
                Check.noElement("the next source", () -> kernel.event(number + 1));
                Check.noElement("the next base task", () -> kernel.task(number + 1, 0));
            }
        }
    }
}
