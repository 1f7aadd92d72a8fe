import java.util.Random;

/** Runs of 512 calls, the same each time, on an object and on the model: all answers are alike. */
public final class ModelTest {
    private static final Check CHECK = new Check("ModelTest");
    private static final int RUNS = 1500;
    private static final int CALLS = 512;
    private static final int FROM_NOTHING = 0;
    private static final int MANY_ACTIONS = 3;
    private static final int MANY_TAKES = 4;
    private static final int STYLES = 5;
    private static final int[] EDGES = {Integer.MIN_VALUE, -2, -1, 0, 1, 2, 5, 7, 8, 12, 99, 100, 200, Integer.MAX_VALUE};
    private static final long[] LONG_EDGES = {Long.MIN_VALUE, -1L, 0L, 1L, 3L, 1L << 32, Long.MAX_VALUE};

    private final Random random;
    private final TrustRows x;
    private final Model model;
    private final int style;
    private final int actions;
    private final int digests;

    private ModelTest(long seed) {
        random = new Random(seed);
        int quorum = random.nextInt(9) - 2;
        x = new TrustRows(quorum);
        model = new Model(quorum);
        style = random.nextInt(STYLES);
        actions = style == MANY_ACTIONS ? 60 : 1 + random.nextInt(6);
        digests = style == MANY_TAKES ? 1 : 1 + random.nextInt(3);
    }

    public static void main(String[] args) {
        for (long seed = 0L; seed < RUNS && CHECK.isClean(); seed++) {
            ModelTest run = new ModelTest(seed);
            for (int call = run.start(); call < CALLS; call++) {
                run.step("run " + seed + ", call " + call + ": ");
            }
        }
        CHECK.end();
    }

    /** In most runs there are writers with keys from the start; in some, all of it comes by chance. */
    private int start() {
        if (style == FROM_NOTHING) {
            return 0;
        }
        for (int i = 0; i < 8; i++) {
            int level = random.nextInt(3);
            x.writer(level);
            model.writer(level);
            x.key(i, i, 0L, 1000L);
            model.key(i, i, 0L, 1000L);
        }
        return 16;
    }

    private int near(int bound) {
        return random.nextInt(30) == 0 ? EDGES[random.nextInt(EDGES.length)] : random.nextInt(bound);
    }

    private long nearLong(int bound) {
        return random.nextInt(30) == 0 ? LONG_EDGES[random.nextInt(LONG_EDGES.length)] : random.nextInt(bound);
    }

    private void step(String at) {
        int kind = random.nextInt(100);
        if (style == MANY_TAKES && random.nextInt(5) > 1) {
            stepTake(at);
        } else if (kind < 5) {
            int level = near(3);
            CHECK.due(at + "writer", x.writer(level), model.writer(level));
        } else if (kind < 10) {
            stepKey(at);
        } else if (kind < 45) {
            stepResult(at);
        } else if (kind < 50) {
            stepRule(at);
        } else if (kind < 53) {
            boolean on = random.nextInt(3) == 0;
            x.own(on);
            model.own(on);
        } else if (kind < 54) {
            int writer = near(12);
            boolean go = style != MANY_ACTIONS && random.nextInt(3) == 0;
            CHECK.due(at + "bar", go ? x.bar(writer) : 0, go ? model.bar(writer) : 0);
        } else if (kind < 75) {
            stepTake(at);
        } else {
            stepQuestion(at);
        }
    }

    private void stepKey(String at) {
        int writer = near(12);
        long key = nearLong(12);
        long from = nearLong(4);
        long until = nearLong(40);
        CHECK.due(at + "key", x.key(writer, key, from, until), model.key(writer, key, from, until));
    }

    private void stepResult(String at) {
        int writer = near(9);
        long action = nearLong(actions);
        long digest = nearLong(digests);
        long under = random.nextInt(10) == 0 ? nearLong(12) : writer;
        long xor = random.nextInt(20) == 0 ? nearLong(2) : 0L;
        long time = nearLong(30);
        CHECK.due(at + "result", x.result(writer, action, digest, under, xor, time),
            model.result(writer, action, digest, under, xor, time));
    }

    private void stepRule(String at) {
        int target = near(4) - 1;
        int branch = near(4) - 1;
        int level = near(3);
        int wanted = 1 + near(3);
        CHECK.due(at + "rule", x.rule(target, branch, level, wanted), model.rule(target, branch, level, wanted));
    }

    private void stepTake(String at) {
        long action = nearLong(actions);
        int target = near(4);
        int branch = near(4);
        long time = nearLong(35);
        CHECK.due(at + "take", x.take(action, target, branch, time), model.take(action, target, branch, time));
    }

    private void stepQuestion(String at) {
        int i = near(style == MANY_TAKES ? 210 : 60);
        int j = near(6);
        switch (random.nextInt(7)) {
            case 0 -> CHECK.due(at + "taken", x.taken(), model.taken());
            case 1 -> CHECK.due(at + "stands", x.stands(i), model.stands(i));
            case 2 -> CHECK.due(at + "clash", x.clash(i % 8, j % 3), model.clash(i % 8, j % 3));
            case 3 -> CHECK.due(at + "audit", x.audit(i, j), model.audit(i, j));
            case 4 -> CHECK.due(at + "ruleFor", x.ruleFor(j, i % 8), model.ruleFor(j, i % 8));
            case 5 -> CHECK.due(at + "sum", x.sum(i, j, 5L), model.sum(i, j, 5L));
            default -> {
                long action = nearLong(actions);
                long time = nearLong(35);
                CHECK.due(at + "counted", x.counted(action, j, i % 8, time), model.counted(action, j, i % 8, time));
            }
        }
    }
}
