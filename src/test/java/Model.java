import java.util.ArrayList;
import java.util.Comparator;
import java.util.HashMap;
import java.util.List;
import java.util.Map;
import java.util.Optional;
import java.util.stream.Collectors;
import java.util.stream.Stream;

/** The document's words once more, with lists and streams; it takes only what is asked of it in ModelTest. */
final class Model {
    private record Key(long key, long from, long until) {
    }

    private record Result(int number, int writer, long action, long digest, long time) {
    }

    private record Rule(int number, int target, int branch, int level, int wanted) {
        boolean fits(int atTarget, int atBranch) {
            return (target == -1 || target == atTarget) && (branch == -1 || branch == atBranch);
        }

        int names() {
            return (target == -1 ? 0 : 1) + (branch == -1 ? 0 : 1);
        }

        boolean namesTarget() {
            return target != -1;
        }
    }

    private record Pair(long action, int lesser, int later) {
    }

    private final int quorum;
    private final List<Integer> levels = new ArrayList<>();
    private final List<Integer> barred = new ArrayList<>();
    private final Map<Integer, List<Key>> keys = new HashMap<>();
    private final List<Result> results = new ArrayList<>();
    private final List<Rule> rules = new ArrayList<>();
    private final List<Pair> clashes = new ArrayList<>();
    private final List<int[]> audit = new ArrayList<>();
    private boolean own = false;
    private long taken = 0L;

    Model(int quorum) {
        this.quorum = quorum < 1 ? 1 : quorum > 5 ? 5 : quorum;
    }

    int writer(int level) {
        if (levels.size() == 12 || !List.of(0, 1, 2).contains(level)) {
            return -1;
        }
        levels.add(level);
        keys.put(levels.size() - 1, new ArrayList<>());
        return levels.size() - 1;
    }

    int key(int writer, long key, long from, long until) {
        if (!keys.containsKey(writer) || barred.contains(writer) || keys.get(writer).size() == 4) {
            return -1;
        }
        if (from < 0 || !(until > from)) {
            return -1;
        }
        keys.get(writer).add(new Key(key, from, until));
        return keys.get(writer).size() - 1;
    }

    long sum(long key, long action, long digest) {
        long x = key;
        for (byte next : java.nio.ByteBuffer.allocate(16).putLong(action).putLong(digest).array()) {
            x = Long.rotateLeft(x ^ Byte.toUnsignedLong(next), 11) * 0x9E3779B97F4A7C15L;
        }
        return x;
    }

    int result(int writer, long action, long digest, long under, long xor, long time) {
        if (!keys.containsKey(writer) || barred.contains(writer) || time < 0) {
            return -1;
        }
        long told = sum(under, action, digest) ^ xor;
        boolean fits = keys.get(writer).stream()
            .anyMatch(k -> k.from <= time && time < k.until && sum(k.key, action, digest) == told);
        if (!fits) {
            return -2;
        }
        if (standing(action).anyMatch(r -> r.writer == writer && r.digest == digest)) {
            return -3;
        }
        if (results.size() == 100) {
            return -4;
        }
        results.add(new Result(results.size(), writer, action, digest, time));
        noteClashes();
        return results.size() - 1;
    }

    /** All pairs anew each time: the later one first, then the lesser. */
    private void noteClashes() {
        for (Result later : results) {
            for (Result lesser : results) {
                boolean known = clashes.stream().anyMatch(c -> c.action == later.action);
                boolean pair = lesser.number < later.number && lesser.action == later.action
                    && lesser.digest != later.digest && stands(lesser.number) && stands(later.number)
                    && levels.get(lesser.writer) != 0 && levels.get(later.writer) != 0;
                if (pair && !known) {
                    clashes.add(new Pair(later.action, lesser.number, later.number));
                }
            }
        }
    }

    private Stream<Result> standing(long action) {
        return results.stream().filter(r -> r.action == action && !barred.contains(r.writer));
    }

    boolean stands(int result) {
        return result >= 0 && result < results.size() && !barred.contains(results.get(result).writer);
    }

    int bar(int writer) {
        if (!keys.containsKey(writer) || barred.contains(writer)) {
            return -1;
        }
        barred.add(writer);
        return (int) results.stream().filter(r -> r.writer == writer).count();
    }

    int rule(int target, int branch, int level, int wanted) {
        boolean fine = target >= -1 && target < 8 && branch >= -1 && branch < 8
            && level >= 0 && level < 3 && wanted > 0 && wanted < 6;
        if (!fine || rules.size() == 20) {
            return -1;
        }
        rules.add(new Rule(rules.size(), target, branch, level, wanted));
        return rules.size() - 1;
    }

    private static boolean within(int target, int branch) {
        return target >= 0 && target < 8 && branch >= 0 && branch < 8;
    }

    private Rule ruleAt(int target, int branch) {
        return rules.stream().filter(r -> r.fits(target, branch))
            .max(Comparator.comparing(Rule::names).thenComparing(Rule::namesTarget).thenComparing(Rule::number))
            .orElse(new Rule(-1, -1, -1, 1, quorum));
    }

    int ruleFor(int target, int branch) {
        return within(target, branch) ? ruleAt(target, branch).number : -1;
    }

    void own(boolean on) {
        own = on;
    }

    private List<Result> counting(long action, Rule rule, long time) {
        return standing(action).filter(r -> r.time <= time && levels.get(r.writer) >= rule.level)
            .collect(Collectors.toList());
    }

    private static int writersOf(List<Result> some) {
        return (int) some.stream().map(Result::writer).distinct().count();
    }

    int take(long action, int target, int branch, long time) {
        if (!within(target, branch) || time < 0) {
            return -2;
        }
        Rule rule = ruleAt(target, branch);
        Optional<Result> mine = standing(action).filter(r -> own && r.time <= time && levels.get(r.writer) == 0)
            .max(Comparator.comparing(Result::time).thenComparing(Result::number));
        if (mine.isPresent()) {
            return note(2, target, branch, rule, 0, mine.get());
        }
        if (clashes.stream().anyMatch(c -> c.action == action)) {
            return 0;
        }
        List<Result> some = counting(action, rule, time);
        if (writersOf(some) < rule.wanted || some.stream().map(Result::digest).distinct().count() != 1) {
            return -1;
        }
        return note(1, target, branch, rule, writersOf(some), some.get(0));
    }

    private int note(int answer, int target, int branch, Rule rule, int writers, Result first) {
        if (audit.size() < 200) {
            audit.add(new int[] {target, branch, rule.number, writers, first.number});
        }
        taken = first.digest;
        return answer;
    }

    long taken() {
        return taken;
    }

    int counted(long action, int target, int branch, long time) {
        return within(target, branch) ? writersOf(counting(action, ruleAt(target, branch), time)) : -1;
    }

    int clash(int i, int side) {
        if (i < 0 || i >= clashes.size() || side < 0 || side > 1) {
            return -1;
        }
        return side == 0 ? clashes.get(i).lesser : clashes.get(i).later;
    }

    int audit(int i, int what) {
        return i < 0 || i >= audit.size() || what < 0 || what > 4 ? -1 : audit.get(i)[what];
    }
}
