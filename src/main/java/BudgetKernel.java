import java.util.NoSuchElementException;

/**
 * A kernel that lets events interrupt only as far as budgets go. The document's numbered promises
 * say what each call does; the words in capitals in the comments here are the document's terms.
 */
public final class BudgetKernel {
    private static final int SOURCE_COUNT = 6;
    private static final int TASK_COUNT = 6;
    private static final int QUEUE_LIMIT = 32;
    private static final int MASK_ABOVE = 24;
    private static final int UNMASK_AT = 8;
    private static final int PIECE_LIMIT = 16;

    private static final int MAX_TOP = 3;
    private static final int MAX_SOURCE_COST = 30;
    private static final int MAX_DISTANCE = 2000;
    private static final int MAX_BUDGET = 30;
    private static final int MAX_SOURCE_PERIOD = 500;
    private static final int MAX_TASK_PERIOD = 2000;
    private static final int MAX_TASK_COST = 500;
    private static final int MAX_PRIORITY = 31;
    private static final int MAX_TICKS = 500;
    private static final int MAX_SPAN = 100000;
    private static final int HISTORY = 1000;

    private static final int NOTHING_RAN = 0;
    private static final int TOP_RAN = 10;
    private static final int HANDLER_RAN = 20;
    private static final int TASK_RAN = 30;

    private static final int NONE = -1;
    /** Every priority is above this one. */
    private static final int LOWEST = -1;

    private final Source[] sources;
    private final BaseTask[] tasks;
    /** The number of a source for each tick of a top half that is open, in the order of events. */
    private final Ring openTops;
    /** What ran in each of the last ticks: used() looks no further back than this. */
    private final int[] history;
    private int now;

    public BudgetKernel() {
        sources = new Source[SOURCE_COUNT];
        tasks = new BaseTask[TASK_COUNT];
        // No handler runs while a top half is open, so each open one has its event in a queue still.
        openTops = new Ring(SOURCE_COUNT * QUEUE_LIMIT * MAX_TOP);
        history = new int[HISTORY];
        now = 0;
    }

    public void source(int source, int top, int cost, int distance, int budget, int period, int priority)
            throws NoSuchElementException, IllegalArgumentException, IllegalStateException {
        if (!within(source, 0, SOURCE_COUNT - 1)) {
            throw new NoSuchElementException("there is no such source");
        }
        if (!within(top, 0, MAX_TOP) || !within(cost, 1, MAX_SOURCE_COST)
                || !within(distance, 1, MAX_DISTANCE) || !within(budget, 1, MAX_BUDGET)
                || !within(period, 1, MAX_SOURCE_PERIOD) || !within(priority, 0, MAX_PRIORITY)) {
            throw new IllegalArgumentException("a number of the source is not within its bounds");
        }
        if (sources[source] != null || isSourcePriority(priority)) {
            throw new IllegalStateException("the source or its priority is there already");
        }
        sources[source] = new Source(source, top, cost, distance, budget, period, priority);
        if (!areTasksAdmitted()) {
            sources[source] = null;
            throw new IllegalStateException("the base tasks would not be admitted any more");
        }
    }

    public boolean base(int task, int period, int cost, int priority)
            throws NoSuchElementException, IllegalArgumentException, IllegalStateException {
        if (!within(task, 0, TASK_COUNT - 1)) {
            throw new NoSuchElementException("there is no such base task");
        }
        if (!within(period, 1, MAX_TASK_PERIOD) || !within(cost, 1, MAX_TASK_COST)
                || !within(priority, 0, MAX_PRIORITY)) {
            throw new IllegalArgumentException("a number of the base task is not within its bounds");
        }
        if (tasks[task] != null || isTaskPriority(priority)) {
            throw new IllegalStateException("the base task or its priority is there already");
        }
        tasks[task] = new BaseTask(task, now, period, cost, priority);
        boolean admitted = areTasksAdmitted();
        if (!admitted) {
            tasks[task] = null;
        }
        return admitted;
    }

    public int event(int source) throws NoSuchElementException {
        Source told = toldSource(source);
        if (!told.take(now)) {
            return 0;
        }
        for (int i = 0; i < told.top; i++) {
            openTops.add(source);
        }
        return 1;
    }

    public int tick() {
        beginPeriods();
        int ran = runOne();
        // floorMod keeps the index good even when the time has wrapped round.
        history[Math.floorMod(now, HISTORY)] = ran;
        now++;
        giveBack();
        return ran;
    }

    public int ticks(int n) throws IllegalArgumentException {
        if (!within(n, 0, MAX_TICKS)) {
            throw new IllegalArgumentException("so many ticks are not allowed");
        }
        int busy = 0;
        for (int i = 0; i < n; i++) {
            if (tick() != NOTHING_RAN) {
                busy++;
            }
        }
        return busy;
    }

    public int about(int source, int what) throws NoSuchElementException, IndexOutOfBoundsException {
        Source told = toldSource(source);
        switch (what) {
            case 0: return told.taken;
            case 1: return told.handled;
            case 2: return told.lost;
            case 3: return told.queue.size;
            case 4: return told.masked ? 1 : 0;
            case 5: return told.maskings;
            case 6: return told.units.size;
            case 7: return told.pieces.count;
            case 8: return told.pieces.nextTime();
            case 9: return told.pieces.nextAmount();
            case 10: return told.greatestDelay;
            case 11: return told.done;
            case 12: return told.busySince;
            default: throw new IndexOutOfBoundsException("nothing is told under this number");
        }
    }

    public int task(int task, int what) throws NoSuchElementException, IndexOutOfBoundsException {
        BaseTask told = toldTask(task);
        switch (what) {
            case 0: return told.work;
            case 1: return told.missed;
            case 2: return told.finished;
            case 3: return boundOfTask(told);
            default: throw new IndexOutOfBoundsException("nothing is told under this number");
        }
    }

    public int bound(int source) throws NoSuchElementException {
        Source told = toldSource(source);
        if (told.cost > told.budget || told.distance < told.period) {
            return NONE;
        }
        // Handlers go before all base tasks, so none of those is counted.
        return leastSpan(told.cost, told.period, told.priority, MAX_PRIORITY);
    }

    public int used(int source, boolean tops, int from, int to)
            throws NoSuchElementException, IndexOutOfBoundsException {
        Source told = toldSource(source);
        if (from < 0 || from > to || to > now || now - from > HISTORY) {
            throw new IndexOutOfBoundsException("these ticks are not remembered");
        }
        int count = 0;
        for (int t = from; t < to; t++) {
            int ran = history[Math.floorMod(t, HISTORY)];
            if (ran == HANDLER_RAN + told.number || tops && ran == TOP_RAN + told.number) {
                count++;
            }
        }
        return count;
    }

    public int floor(int span) throws IllegalArgumentException {
        if (!within(span, 0, MAX_SPAN)) {
            throw new IllegalArgumentException("the span is not within its bounds");
        }
        return Math.max(0, span - budgetsIn(span, LOWEST) - topsIn(span));
    }

    public int time() {
        return now;
    }

    private static boolean within(int number, int least, int greatest) {
        return number >= least && number <= greatest;
    }

    private Source toldSource(int number) {
        if (!within(number, 0, SOURCE_COUNT - 1) || sources[number] == null) {
            throw new NoSuchElementException("there is no such source");
        }
        return sources[number];
    }

    private BaseTask toldTask(int number) {
        if (!within(number, 0, TASK_COUNT - 1) || tasks[number] == null) {
            throw new NoSuchElementException("there is no such base task");
        }
        return tasks[number];
    }

    private boolean isSourcePriority(int priority) {
        for (Source s : sources) {
            if (s != null && s.priority == priority) {
                return true;
            }
        }
        return false;
    }

    private boolean isTaskPriority(int priority) {
        for (BaseTask b : tasks) {
            if (b != null && b.priority == priority) {
                return true;
            }
        }
        return false;
    }

    private void beginPeriods() {
        for (BaseTask b : tasks) {
            if (b != null) {
                b.beginPeriodAt(now);
            }
        }
    }

    private void giveBack() {
        for (Source s : sources) {
            if (s != null) {
                s.giveBackAt(now);
            }
        }
    }

    private int runOne() {
        if (openTops.size > 0) {
            return TOP_RAN + openTops.removeFirst();
        }
        Source ready = highestReady();
        if (ready != null) {
            ready.runHandlerAt(now);
            return HANDLER_RAN + ready.number;
        }
        BaseTask working = highestWithWork();
        if (working != null) {
            working.runOnce();
            return TASK_RAN + working.number;
        }
        return NOTHING_RAN;
    }

    private Source highestReady() {
        Source highest = null;
        for (Source s : sources) {
            if (s != null && s.isReady() && (highest == null || s.priority > highest.priority)) {
                highest = s;
            }
        }
        return highest;
    }

    private BaseTask highestWithWork() {
        BaseTask highest = null;
        for (BaseTask b : tasks) {
            if (b != null && b.work > 0 && (highest == null || b.priority > highest.priority)) {
                highest = b;
            }
        }
        return highest;
    }

    private boolean areTasksAdmitted() {
        for (BaseTask b : tasks) {
            if (b != null && boundOfTask(b) == NONE) {
                return false;
            }
        }
        return true;
    }

    private int boundOfTask(BaseTask b) {
        return leastSpan(b.cost, b.period, LOWEST, b.priority);
    }

    /**
     * The least R of the BOUNDS: of the sources' budgets those above one priority count, of the base
     * tasks those above another. The right side never falls as R grows, so R rises at each step or
     * stays, and there are no more steps than the period has ticks.
     */
    private int leastSpan(int cost, int period, int abovePriority, int aboveTaskPriority) {
        int span = 1;
        for (int step = 0; step <= period; step++) {
            int next = cost + budgetsIn(span, abovePriority) + topsIn(span) + worksIn(span, aboveTaskPriority);
            if (next > period) {
                return NONE;
            }
            if (next == span) {
                return span;
            }
            span = next;
        }
        return NONE;
    }

    private int budgetsIn(int span, int abovePriority) {
        int sum = 0;
        for (Source s : sources) {
            if (s != null && s.priority > abovePriority) {
                sum += (ceil(span, s.period) + 1) * s.budget;
            }
        }
        return sum;
    }

    private int topsIn(int span) {
        int sum = 0;
        for (Source s : sources) {
            if (s != null) {
                sum += (ceil(span, s.distance) + 1) * s.top;
            }
        }
        return sum;
    }

    private int worksIn(int span, int abovePriority) {
        int sum = 0;
        for (BaseTask b : tasks) {
            if (b != null && b.priority > abovePriority) {
                sum += ceil(span, b.period) * b.cost;
            }
        }
        return sum;
    }

    /** No divisor is below 1: source() and base() let no such period or distance in. */
    private static int ceil(int number, int divisor) {
        return (number + divisor - 1) / divisor;
    }

    private static final class Source {
        final int number;
        final int top;
        final int cost;
        final int distance;
        final int budget;
        final int period;
        final int priority;
        /** The times of the events that were TAKEN and are not handled. */
        final Ring queue;
        /**
         * The times since which the UNITS are LEFT. What is given back is left since now, so the
         * earliest always stands first.
         */
        final Ring units;
        final Pieces pieces;
        boolean masked;
        int maskings;
        int taken;
        int handled;
        int lost;
        int greatestDelay;
        /** The ticks of the first event that are done. */
        int done;
        int busySince;

        Source(int number, int top, int cost, int distance, int budget, int period, int priority) {
            this.number = number;
            this.top = top;
            this.cost = cost;
            this.distance = distance;
            this.budget = budget;
            this.period = period;
            this.priority = priority;
            queue = new Ring(QUEUE_LIMIT);
            units = new Ring(budget);
            for (int i = 0; i < budget; i++) {
                units.add(0);
            }
            pieces = new Pieces();
            busySince = NONE;
        }

        boolean isReady() {
            return queue.size > 0 && units.size > 0;
        }

        boolean take(int t) {
            if (masked || queue.size >= QUEUE_LIMIT) {
                lost++;
                return false;
            }
            if (queue.size == 0) {
                busySince = t;
            }
            queue.add(t);
            taken++;
            if (queue.size > MASK_ABOVE) {
                masked = true;
                maskings++;
            }
            return true;
        }

        void runHandlerAt(int t) {
            spendUnitAt(t);
            done++;
            if (done >= cost) {
                handleFirstAt(t + 1);
            }
        }

        void giveBackAt(int t) {
            int amount = pieces.removeDue(t);
            for (int i = 0; i < amount; i++) {
                units.add(t);
            }
        }

        private void spendUnitAt(int t) {
            int since = Math.max(units.removeFirst(), busySince);
            if (t - since >= period) {
                since = t;
            }
            pieces.add(since + period);
        }

        private void handleFirstAt(int t) {
            greatestDelay = Math.max(greatestDelay, t - queue.removeFirst());
            handled++;
            done = 0;
            if (queue.size <= UNMASK_AT) {
                masked = false;
            }
            if (queue.size == 0) {
                busySince = NONE;
            }
        }
    }

    private static final class BaseTask {
        final int number;
        final int begin;
        final int period;
        final int cost;
        final int priority;
        int work;
        int missed;
        int finished;

        BaseTask(int number, int begin, int period, int cost, int priority) {
            this.number = number;
            this.begin = begin;
            this.period = period;
            this.cost = cost;
            this.priority = priority;
        }

        void beginPeriodAt(int t) {
            if ((t - begin) % period != 0) {
                return;
            }
            if (work > 0) {
                missed++;
            }
            work = cost;
        }

        void runOnce() {
            work--;
            if (work == 0) {
                finished++;
            }
        }
    }

    /** The PIECES of one source, in the order in which they came. */
    private static final class Pieces {
        final int[] times;
        final int[] amounts;
        int count;

        Pieces() {
            times = new int[PIECE_LIMIT];
            amounts = new int[PIECE_LIMIT];
        }

        void add(int t) {
            int last = count - 1;
            if (last >= 0 && (times[last] == t || count >= PIECE_LIMIT)) {
                amounts[last]++;
                times[last] = Math.max(times[last], t);
            } else {
                times[count] = t;
                amounts[count] = 1;
                count++;
            }
        }

        /** Answers how many units are given back; the pieces that stay keep their order. */
        int removeDue(int t) {
            int amount = 0;
            int kept = 0;
            for (int i = 0; i < count; i++) {
                if (times[i] <= t) {
                    amount += amounts[i];
                } else {
                    times[kept] = times[i];
                    amounts[kept] = amounts[i];
                    kept++;
                }
            }
            count = kept;
            return amount;
        }

        int nextTime() {
            int next = firstOfLeast();
            return next < 0 ? NONE : times[next];
        }

        int nextAmount() {
            int next = firstOfLeast();
            return next < 0 ? 0 : amounts[next];
        }

        private int firstOfLeast() {
            int first = NONE;
            for (int i = 0; i < count; i++) {
                if (first < 0 || times[i] < times[first]) {
                    first = i;
                }
            }
            return first;
        }
    }

    /** Numbers that leave in the order in which they came; the row is made once and used again. */
    private static final class Ring {
        final int[] row;
        int head;
        int size;

        Ring(int capacity) {
            row = new int[capacity];
        }

        void add(int number) {
            if (size < row.length) {
                row[(head + size) % row.length] = number;
                size++;
            }
        }

        int removeFirst() {
            if (size == 0) {
                return NONE;
            }
            int first = row[head];
            head = (head + 1) % row.length;
            size--;
            return first;
        }
    }
}
