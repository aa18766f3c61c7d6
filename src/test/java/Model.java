import java.util.ArrayList;
import java.util.List;
import java.util.NoSuchElementException;
import java.util.TreeMap;

/**
 * The document once more, as plainly as its words allow and with other means than the class: every unit is an
 * object, every tick is kept, bounds are sought among all spans one by one. The walks of ModelTest compare both.
 */
final class Model {
    static final class Unit {
        int leftSince = 0;
        Piece piece = null;
    }

    static final class Piece {
        int time;
        int amount;
    }

    static final class Source {
        int top;
        int cost;
        int distance;
        int budget;
        int period;
        int priority;
        final List<Integer> queue = new ArrayList<>();
        final List<Unit> units = new ArrayList<>();
        final List<Piece> pieces = new ArrayList<>();
        boolean masked;
        int maskings;
        int taken;
        int handled;
        int lost;
        int greatestDelay;
        int done;
        int busy = -1;
    }

    static final class Task {
        int begin;
        int period;
        int cost;
        int priority;
        int work;
        int missed;
        int finished;
    }

    final TreeMap<Integer, Source> sources = new TreeMap<>();
    final TreeMap<Integer, Task> tasks = new TreeMap<>();
    /** Each row: a source, and the ticks of its top half that are open. */
    final List<int[]> tops = new ArrayList<>();
    final List<Integer> history = new ArrayList<>();

    /** How often the walks came by the rare places, so that a test can ask for them. */
    int mergedLater;
    int mergedEarlier;
    int waitedAPeriod;
    int sameTimeApart;
    int missedInAll;

    void source(int source, int top, int cost, int distance, int budget, int period, int priority) {
        need(source >= 0 && source <= 5, new NoSuchElementException());
        need(top >= 0 && top <= 3 && cost >= 1 && cost <= 30 && distance >= 1 && distance <= 2000
                && budget >= 1 && budget <= 30 && period >= 1 && period <= 500
                && priority >= 0 && priority <= 31, new IllegalArgumentException());
        need(!sources.containsKey(source), new IllegalStateException());
        need(sources.values().stream().noneMatch(s -> s.priority == priority), new IllegalStateException());
        Source s = new Source();
        s.top = top;
        s.cost = cost;
        s.distance = distance;
        s.budget = budget;
        s.period = period;
        s.priority = priority;
        for (int i = 0; i < budget; i++) {
            s.units.add(new Unit());
        }
        sources.put(source, s);
        if (!admitted()) {
            sources.remove(source);
            throw new IllegalStateException();
        }
    }

    boolean base(int task, int period, int cost, int priority) {
        need(task >= 0 && task <= 5, new NoSuchElementException());
        need(period >= 1 && period <= 2000 && cost >= 1 && cost <= 500 && priority >= 0 && priority <= 31,
                new IllegalArgumentException());
        need(!tasks.containsKey(task), new IllegalStateException());
        need(tasks.values().stream().noneMatch(b -> b.priority == priority), new IllegalStateException());
        Task b = new Task();
        b.begin = time();
        b.period = period;
        b.cost = cost;
        b.priority = priority;
        tasks.put(task, b);
        if (!admitted()) {
            tasks.remove(task);
            return false;
        }
        return true;
    }

    int event(int source) {
        Source s = told(source);
        if (s.masked || s.queue.size() == 32) {
            s.lost++;
            return 0;
        }
        s.taken++;
        if (s.top > 0) {
            tops.add(new int[] {source, s.top});
        }
        if (s.queue.isEmpty()) {
            s.busy = time();
        }
        s.queue.add(time());
        if (s.queue.size() > 24) {
            s.masked = true;
            s.maskings++;
        }
        return 1;
    }

    int tick() {
        int t = time();
        giveBack(t);
        for (Task b : tasks.values()) {
            if (t >= b.begin && (t - b.begin) % b.period == 0) {
                if (b.work > 0) {
                    b.missed++;
                    missedInAll++;
                }
                b.work = b.cost;
            }
        }
        int ran = runOne(t);
        history.add(ran);
        giveBack(t + 1);
        return ran;
    }

    private int runOne(int t) {
        if (!tops.isEmpty()) {
            int[] first = tops.get(0);
            if (--first[1] == 0) {
                tops.remove(0);
            }
            return 10 + first[0];
        }
        int best = -1;
        for (int i : sources.keySet()) {
            Source s = sources.get(i);
            boolean ready = !s.queue.isEmpty() && s.units.stream().anyMatch(u -> u.piece == null);
            if (ready && (best < 0 || s.priority > sources.get(best).priority)) {
                best = i;
            }
        }
        if (best >= 0) {
            handle(sources.get(best), t);
            return 20 + best;
        }
        for (int i : tasks.keySet()) {
            if (tasks.get(i).work > 0 && (best < 0 || tasks.get(i).priority > tasks.get(best).priority)) {
                best = i;
            }
        }
        if (best < 0) {
            return 0;
        }
        Task b = tasks.get(best);
        b.work--;
        b.finished += b.work == 0 ? 1 : 0;
        return 30 + best;
    }

    private void handle(Source s, int t) {
        spend(s, t);
        s.done++;
        if (s.done == s.cost) {
            s.done = 0;
            s.handled++;
            s.greatestDelay = Math.max(s.greatestDelay, t + 1 - s.queue.remove(0));
            if (s.queue.size() == 8) {
                s.masked = false;
            }
            if (s.queue.isEmpty()) {
                s.busy = -1;
            }
        }
    }

    private void spend(Source s, int t) {
        Unit earliest = null;
        for (Unit u : s.units) {
            if (u.piece == null && (earliest == null || u.leftSince < earliest.leftSince)) {
                earliest = u;
            }
        }
        int since = earliest.leftSince > s.busy ? earliest.leftSince : s.busy;
        if (since <= t - s.period) {
            since = t;
            waitedAPeriod++;
        }
        int back = since + s.period;
        Piece last = s.pieces.isEmpty() ? null : s.pieces.get(s.pieces.size() - 1);
        if (last == null || last.time != back && s.pieces.size() < 16) {
            sameTimeApart += s.pieces.stream().anyMatch(p -> p.time == back) ? 1 : 0;
            last = new Piece();
            last.time = back;
            s.pieces.add(last);
        } else if (last.time != back) {
            mergedLater += back > last.time ? 1 : 0;
            mergedEarlier += back < last.time ? 1 : 0;
            last.time = Math.max(last.time, back);
        }
        last.amount++;
        earliest.piece = last;
    }

    private void giveBack(int t) {
        for (Source s : sources.values()) {
            for (Unit u : s.units) {
                if (u.piece != null && u.piece.time <= t) {
                    u.piece = null;
                    u.leftSince = t;
                }
            }
            s.pieces.removeIf(p -> p.time <= t);
        }
    }

    int ticks(int n) {
        need(n >= 0 && n <= 500, new IllegalArgumentException());
        int ran = 0;
        for (int i = 0; i < n; i++) {
            ran += tick() != 0 ? 1 : 0;
        }
        return ran;
    }

    int about(int source, int what) {
        Source s = told(source);
        need(what >= 0 && what <= 12, new IndexOutOfBoundsException());
        Piece first = null;
        for (Piece p : s.pieces) {
            first = first == null || p.time < first.time ? p : first;
        }
        int left = (int) s.units.stream().filter(u -> u.piece == null).count();
        int[] all = {s.taken, s.handled, s.lost, s.queue.size(), s.masked ? 1 : 0, s.maskings, left, s.pieces.size(),
            first == null ? -1 : first.time, first == null ? 0 : first.amount, s.greatestDelay, s.done, s.busy};
        return all[what];
    }

    int task(int task, int what) {
        Task b = tasks.get(task);
        need(b != null, new NoSuchElementException());
        need(what >= 0 && what <= 3, new IndexOutOfBoundsException());
        return new int[] {b.work, b.missed, b.finished, bound(b)}[what];
    }

    int bound(int source) {
        Source s = told(source);
        if (s.cost > s.budget || s.distance < s.period) {
            return -1;
        }
        for (int span = 1; span <= s.period; span++) {
            int right = s.cost;
            for (Source other : sources.values()) {
                if (other.priority > s.priority) {
                    right += (ceil(span, other.period) + 1) * other.budget;
                }
                right += (ceil(span, other.distance) + 1) * other.top;
            }
            if (right == span) {
                return span;
            }
        }
        return -1;
    }

    private int bound(Task b) {
        for (int span = 1; span <= b.period; span++) {
            int right = b.cost + demand(span);
            for (Task other : tasks.values()) {
                if (other.priority > b.priority) {
                    right += ceil(span, other.period) * other.cost;
                }
            }
            if (right == span) {
                return span;
            }
        }
        return -1;
    }

    private boolean admitted() {
        return tasks.values().stream().allMatch(b -> bound(b) > 0);
    }

    int used(int source, boolean withTops, int from, int to) {
        told(source);
        need(0 <= from && from <= to && to <= time() && from >= time() - 1000, new IndexOutOfBoundsException());
        int count = 0;
        for (int ran : history.subList(from, to)) {
            count += ran == 20 + source || withTops && ran == 10 + source ? 1 : 0;
        }
        return count;
    }

    int floor(int span) {
        need(span >= 0 && span <= 100000, new IllegalArgumentException());
        return Math.max(0, span - demand(span));
    }

    int time() {
        return history.size();
    }

    private int demand(int span) {
        int sum = 0;
        for (Source s : sources.values()) {
            sum += (ceil(span, s.period) + 1) * s.budget + (ceil(span, s.distance) + 1) * s.top;
        }
        return sum;
    }

    private static int ceil(int a, int b) {
        return a / b + (a % b == 0 ? 0 : 1);
    }

    private Source told(int source) {
        need(sources.containsKey(source), new NoSuchElementException());
        return sources.get(source);
    }

    private static void need(boolean holds, RuntimeException otherwise) {
        if (!holds) {
            throw otherwise;
        }
    }
}
