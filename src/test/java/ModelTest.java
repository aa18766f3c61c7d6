import java.util.Random;
import java.util.function.ToIntFunction;

/** All promises: long walks of chosen calls, right and wrong ones, answer as the plain model of the document does. */
public final class ModelTest {
    /** The document promises nothing after this many calls on one object. */
    private static final int CALLS = 512;
    private static final int WALKS = 4000;

    private final Random random;
    private final String name;
    private final BudgetKernel kernel = new BudgetKernel();
    private final Model model = new Model();
    private final int style;

    private ModelTest(int walk) {
        random = new Random(walk);
        name = "walk " + walk;
        style = walk % 5;
    }

    public static void main(String[] args) {
        int[] seen = new int[5];
        for (int walk = 0; walk < WALKS; walk++) {
            Model model = new ModelTest(walk).walk();
            seen[0] += model.mergedLater;
            seen[1] += model.mergedEarlier;
            seen[2] += model.waitedAPeriod;
            seen[3] += model.sameTimeApart;
            seen[4] += model.missedInAll;
        }
        String[] rare = {"merged, later", "merged, earlier", "waited a period", "same time apart", "missed"};
        for (int i = 0; i < seen.length; i++) {
            System.out.println(rare[i] + ": " + seen[i]);
            Check.isTrue("the walks come by: " + rare[i], seen[i] > 0);
        }
        Check.end();
    }

    private Model walk() {
        int call = 0;
        while (call < CALLS - 13) {
            call += call < 12 && random.nextInt(4) > 0 ? tell() : step();
        }
        return model;
    }

    /** Makes one call, or some, of both; answers how many. */
    private int step() {
        int kind = random.nextInt(100);
        if (kind < 3) {
            return tell();
        }
        if (kind < 35) {
            return events();
        }
        if (kind < 55) {
            return compare("tick()", k -> k.tick(), m -> m.tick());
        }
        if (kind < 65) {
            int n = random.nextInt(20) == 0 ? random.nextInt(520) - 10 : random.nextInt(style == 4 ? 60 : 12);
            return compare("ticks(" + n + ")", k -> k.ticks(n), m -> m.ticks(n));
        }
        return ask();
    }

    private int events() {
        int source = number();
        int many = random.nextInt(30) == 0 ? 13 : random.nextInt(3) + 1;
        for (int i = 0; i < many; i++) {
            compare("event(" + source + ")", k -> k.event(source), m -> m.event(source));
        }
        return many;
    }

    private int ask() {
        int number = number();
        switch (random.nextInt(10)) {
            case 0:
                int task = random.nextInt(6) - (random.nextInt(20) == 0 ? 5 : 0);
                int about = random.nextInt(20) == 0 ? random.nextInt(9) - 4 : random.nextInt(4);
                return compare("task(" + task + ", " + about + ")", k -> k.task(task, about), m -> m.task(task, about));
            case 1:
                return compare("bound(" + number + ")", k -> k.bound(number), m -> m.bound(number));
            case 2:
                return used(number);
            case 3:
                int span = random.nextInt(10) == 0 ? random.nextInt(200000) - 50000 : random.nextInt(500);
                return compare("floor(" + span + ")", k -> k.floor(span), m -> m.floor(span));
            case 4:
                return compare("time()", k -> k.time(), m -> m.time());
            case 5:
                return allAbout(number);
            default:
                int what = random.nextInt(30) == 0 ? random.nextInt(40) - 20 : random.nextInt(13);
                return compare("about(" + number + ", " + what + ")",
                        k -> k.about(number, what), m -> m.about(number, what));
        }
    }

    private int allAbout(int source) {
        for (int i = 0; i < 13; i++) {
            int what = i;
            compare("about(" + source + ", " + what + ")", k -> k.about(source, what), m -> m.about(source, what));
        }
        return 13;
    }

    private int used(int source) {
        boolean tops = random.nextBoolean();
        int back = random.nextInt(8) == 0 ? 1002 - random.nextInt(4) : random.nextInt(300);
        int from = model.time() - back;
        int to = random.nextInt(10) == 0 ? model.time() + 1 : from + random.nextInt(back + 2) - 1;
        return compare("used(" + source + ", " + tops + ", " + from + ", " + to + ")",
                k -> k.used(source, tops, from, to), m -> m.used(source, tops, from, to));
    }

    private int tell() {
        if (random.nextInt(3) == 0) {
            int task = random.nextInt(40) == 0 ? 6 - 7 * random.nextInt(2) : random.nextInt(6);
            int period = random.nextInt(40) == 0 ? 2001 * random.nextInt(2) : 1 + random.nextInt(style < 2 ? 400 : 2000);
            int cost = random.nextInt(40) == 0 ? 501 * random.nextInt(2) : 1 + random.nextInt(style < 2 ? 20 : 60);
            int priority = random.nextInt(40) == 0 ? 33 * random.nextInt(2) - 1 : random.nextInt(32);
            return compare("base(" + task + ", " + period + ", " + cost + ", " + priority + ")",
                    k -> k.base(task, period, cost, priority) ? 1 : 0, m -> m.base(task, period, cost, priority) ? 1 : 0);
        }
        int[] n = {range(0, 3, 3), range(1, 30, 3), range(1, 2000, 500), range(1, 30, 30), range(1, 500, 40), range(0, 31, 31)};
        int source = random.nextInt(40) == 0 ? 6 - 7 * random.nextInt(2) : random.nextInt(6);
        return compare("source(" + source + ", " + n[0] + ", " + n[1] + ", " + n[2] + ", " + n[3] + ", " + n[4] + ", " + n[5] + ")",
                k -> { k.source(source, n[0], n[1], n[2], n[3], n[4], n[5]); return 0; },
                m -> { m.source(source, n[0], n[1], n[2], n[3], n[4], n[5]); return 0; });
    }

    /** Mostly within its bounds, often near the small end, and now and then outside. */
    private int range(int least, int greatest, int mostly) {
        int kind = random.nextInt(60);
        if (kind == 0) {
            return least - 1;
        }
        if (kind == 1) {
            return greatest + 1;
        }
        int span = style % 2 == 0 || random.nextInt(3) == 0 ? greatest : Math.min(greatest, mostly);
        return least + random.nextInt(span - least + 1);
    }

    private int number() {
        return random.nextInt(60) == 0 ? random.nextInt(12) - 3 : random.nextInt(style == 3 ? 2 : 6);
    }

    private int compare(String call, ToIntFunction<BudgetKernel> ofKernel, ToIntFunction<Model> ofModel) {
        String got;
        String due;
        try {
            got = Integer.toString(ofKernel.applyAsInt(kernel));
        } catch (RuntimeException e) {
            got = e.getClass().getName();
        }
        try {
            due = Integer.toString(ofModel.applyAsInt(model));
        } catch (RuntimeException e) {
            due = e.getClass().getName();
        }
        Check.isTrue(name + ", " + call + " answered " + got + ", due is " + due, got.equals(due));
        return 1;
    }
}
