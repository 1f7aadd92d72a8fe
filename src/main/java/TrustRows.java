/**
 * Who may write results and whose count. What each call answers is told by the promises of the
 * document (shared/DOC.md); words in capitals there are the plain words here.
 */
public final class TrustRows {
    public static final int NONE = -1;

    private static final int LEAST_WANTED = 1;
    private static final int MOST_WANTED = 5;
    private static final int LAST_PLACE = 7;

    private static final int OWN_LEVEL = 0;
    private static final int PIPELINE_LEVEL = 1;
    private static final int RELEASE_LEVEL = 2;

    private static final int MOST_WRITERS = 12;
    private static final int MOST_KEYS = 4;
    private static final int MOST_RESULTS = 100;
    // Every clashing action has two results of its own.
    private static final int MOST_CLASHES = MOST_RESULTS / 2;
    private static final int MOST_RULES = 20;
    private static final int MOST_AUDIT_ROWS = 200;
    private static final int AUDIT_COLUMNS = 5;

    private static final int RESULT_REFUSED = -1;
    private static final int RESULT_UNFIT = -2;
    private static final int RESULT_KNOWN = -3;
    private static final int RESULT_NO_ROOM = -4;

    private static final int TAKE_OWN = 2;
    private static final int TAKE_AGREED = 1;
    private static final int TAKE_CLASHING = 0;
    private static final int TAKE_TOO_FEW = -1;
    private static final int TAKE_REFUSED = -2;

    private static final int WORD_TOP_BYTE = 56;
    private static final int BYTE_BITS = 8;
    private static final long BYTE_MASK = 0xFFL;
    private static final int TURN = 11;
    private static final int TURN_BACK = 64 - TURN;
    private static final long FACTOR = 0x9E3779B97F4A7C15L;

    private final int quorum;
    private final Writers writers;
    private final Results results;
    private final Clashes clashes;
    private final Rules rules;
    private final AuditRows auditRows;
    private boolean ownCounts;
    private long latestTaken;

    public TrustRows(int quorum) {
        this.quorum = Math.max(LEAST_WANTED, Math.min(MOST_WANTED, quorum));
        this.writers = new Writers();
        this.results = new Results();
        this.clashes = new Clashes();
        this.rules = new Rules();
        this.auditRows = new AuditRows();
        this.ownCounts = false;
        this.latestTaken = 0L;
    }

    public int writer(int level) {
        return writers.add(level);
    }

    public int key(int writer, long key, long from, long until) {
        return writers.addKey(writer, key, from, until);
    }

    public long sum(long key, long action, long digest) {
        return sumUnder(key, action, digest);
    }

    public int result(int writer, long action, long digest, long under, long xor, long time) {
        if (!writers.mayWrite(writer) || time < 0L) {
            return RESULT_REFUSED;
        }
        long told = sumUnder(under, action, digest) ^ xor;
        if (!writers.fits(writer, action, digest, told, time)) {
            return RESULT_UNFIT;
        }
        if (results.hasLike(writer, action, digest)) {
            return RESULT_KNOWN;
        }
        int number = results.add(writer, writers.levelOf(writer), action, digest, time);
        if (number == NONE) {
            return RESULT_NO_ROOM;
        }
        noteClash(number, action);
        return number;
    }

    public boolean stands(int result) {
        return results.isStanding(result);
    }

    public int bar(int writer) {
        if (!writers.mayWrite(writer)) {
            return NONE;
        }
        writers.shutOut(writer);
        return results.dropAllOf(writer);
    }

    public int rule(int target, int branch, int level, int wanted) {
        return rules.add(target, branch, level, wanted);
    }

    public int ruleFor(int target, int branch) {
        if (!isPlace(target) || !isPlace(branch)) {
            return NONE;
        }
        return rules.best(target, branch);
    }

    public void own(boolean on) {
        ownCounts = on;
    }

    public int take(long action, int target, int branch, long time) {
        if (!isPlace(target) || !isPlace(branch) || time < 0L) {
            return TAKE_REFUSED;
        }
        int best = rules.best(target, branch);
        int latestOwn = ownCounts ? results.latestOwn(action, time) : NONE;
        if (latestOwn != NONE) {
            auditRows.add(target, branch, best, 0, latestOwn);
            latestTaken = results.digestOf(latestOwn);
            return TAKE_OWN;
        }
        if (clashes.has(action)) {
            return TAKE_CLASHING;
        }
        int level = rules.levelOf(best);
        int agreeing = results.countWriters(action, level, time);
        if (agreeing < rules.wantedOf(best, quorum) || !results.tellOneDigest(action, level, time)) {
            return TAKE_TOO_FEW;
        }
        int first = results.firstCounting(action, level, time);
        auditRows.add(target, branch, best, agreeing, first);
        latestTaken = results.digestOf(first);
        return TAKE_AGREED;
    }

    public long taken() {
        return latestTaken;
    }

    public int counted(long action, int target, int branch, long time) {
        if (!isPlace(target) || !isPlace(branch)) {
            return NONE;
        }
        int level = rules.levelOf(rules.best(target, branch));
        return results.countWriters(action, level, time);
    }

    public int clash(int i, int side) {
        return clashes.numberAt(i, side);
    }

    public int audit(int i, int what) {
        return auditRows.valueAt(i, what);
    }

    // Only the first pair of an action is told, so a later one must not be looked for.
    private void noteClash(int number, long action) {
        if (clashes.has(action)) {
            return;
        }
        int lesser = results.firstAgainst(number);
        if (lesser != NONE) {
            clashes.add(action, lesser, number);
        }
    }

    private static boolean isPlace(int place) {
        return place >= 0 && place <= LAST_PLACE;
    }

    private static boolean isPlaceOrAny(int place) {
        return place == NONE || isPlace(place);
    }

    private static boolean isLevel(int level) {
        return level >= OWN_LEVEL && level <= RELEASE_LEVEL;
    }

    private static long sumUnder(long key, long action, long digest) {
        return mixWord(mixWord(key, action), digest);
    }

    private static long mixWord(long start, long word) {
        long x = start;
        for (int shift = WORD_TOP_BYTE; shift >= 0; shift -= BYTE_BITS) {
            x ^= (word >>> shift) & BYTE_MASK;
            x = ((x << TURN) | (x >>> TURN_BACK)) * FACTOR;
        }
        return x;
    }

    /** The writers with their keys; the keys of one writer lie side by side. */
    private static final class Writers {
        private final int[] levels = new int[MOST_WRITERS];
        private final boolean[] barred = new boolean[MOST_WRITERS];
        private final int[] keyCounts = new int[MOST_WRITERS];
        private final long[] keys = new long[MOST_WRITERS * MOST_KEYS];
        private final long[] froms = new long[MOST_WRITERS * MOST_KEYS];
        private final long[] untils = new long[MOST_WRITERS * MOST_KEYS];
        private int count = 0;

        int add(int level) {
            if (count >= MOST_WRITERS || !isLevel(level)) {
                return NONE;
            }
            int number = count;
            levels[number] = level;
            count++;
            return number;
        }

        boolean has(int number) {
            return number >= 0 && number < count;
        }

        boolean mayWrite(int number) {
            return has(number) && !barred[number];
        }

        int levelOf(int number) {
            return has(number) ? levels[number] : NONE;
        }

        void shutOut(int number) {
            if (has(number)) {
                barred[number] = true;
            }
        }

        int addKey(int number, long key, long from, long until) {
            if (!mayWrite(number) || keyCounts[number] >= MOST_KEYS) {
                return NONE;
            }
            if (from < 0L || until <= from) {
                return NONE;
            }
            int place = keyCounts[number];
            int at = number * MOST_KEYS + place;
            keys[at] = key;
            froms[at] = from;
            untils[at] = until;
            keyCounts[number]++;
            return place;
        }

        boolean fits(int number, long action, long digest, long told, long time) {
            if (!has(number)) {
                return false;
            }
            int start = number * MOST_KEYS;
            int end = start + keyCounts[number];
            for (int at = start; at < end; at++) {
                boolean inSpan = froms[at] <= time && time < untils[at];
                if (inSpan && sumUnder(keys[at], action, digest) == told) {
                    return true;
                }
            }
            return false;
        }
    }

    /** The results; each keeps its writer's level, which never changes. */
    private static final class Results {
        private final int[] writerNumbers = new int[MOST_RESULTS];
        private final int[] levels = new int[MOST_RESULTS];
        private final long[] actions = new long[MOST_RESULTS];
        private final long[] digests = new long[MOST_RESULTS];
        private final long[] times = new long[MOST_RESULTS];
        private final boolean[] dropped = new boolean[MOST_RESULTS];
        private int count = 0;

        int add(int writer, int level, long action, long digest, long time) {
            if (count >= MOST_RESULTS) {
                return NONE;
            }
            int number = count;
            writerNumbers[number] = writer;
            levels[number] = level;
            actions[number] = action;
            digests[number] = digest;
            times[number] = time;
            count++;
            return number;
        }

        boolean isStanding(int number) {
            return number >= 0 && number < count && !dropped[number];
        }

        long digestOf(int number) {
            return number >= 0 && number < count ? digests[number] : 0L;
        }

        boolean hasLike(int writer, long action, long digest) {
            for (int i = 0; i < count; i++) {
                boolean same = writerNumbers[i] == writer && actions[i] == action && digests[i] == digest;
                if (same && !dropped[i]) {
                    return true;
                }
            }
            return false;
        }

        int dropAllOf(int writer) {
            int drops = 0;
            for (int i = 0; i < count; i++) {
                if (writerNumbers[i] == writer && !dropped[i]) {
                    dropped[i] = true;
                    drops++;
                }
            }
            return drops;
        }

        /** The first result before this one that clashes with it. */
        int firstAgainst(int number) {
            if (!isStanding(number) || levels[number] == OWN_LEVEL) {
                return NONE;
            }
            for (int i = 0; i < number; i++) {
                boolean differs = actions[i] == actions[number] && digests[i] != digests[number];
                if (differs && !dropped[i] && levels[i] != OWN_LEVEL) {
                    return i;
                }
            }
            return NONE;
        }

        int latestOwn(long action, long time) {
            int latest = NONE;
            long latestTime = 0L;
            for (int i = 0; i < count; i++) {
                boolean speaks = levels[i] == OWN_LEVEL && counts(i, action, OWN_LEVEL, time);
                if (speaks && (latest == NONE || times[i] >= latestTime)) {
                    latest = i;
                    latestTime = times[i];
                }
            }
            return latest;
        }

        int countWriters(long action, int level, long time) {
            int seen = 0;
            for (int i = 0; i < count; i++) {
                if (counts(i, action, level, time)) {
                    seen |= 1 << writerNumbers[i];
                }
            }
            return Integer.bitCount(seen);
        }

        int firstCounting(long action, int level, long time) {
            for (int i = 0; i < count; i++) {
                if (counts(i, action, level, time)) {
                    return i;
                }
            }
            return NONE;
        }

        boolean tellOneDigest(long action, int level, long time) {
            long digest = digestOf(firstCounting(action, level, time));
            for (int i = 0; i < count; i++) {
                if (counts(i, action, level, time) && digests[i] != digest) {
                    return false;
                }
            }
            return true;
        }

        private boolean counts(int number, long action, int level, long time) {
            return isStanding(number) && actions[number] == action
                && levels[number] >= level && times[number] <= time;
        }
    }

    /** The clashing actions, in the order in which that came up; none ever goes. */
    private static final class Clashes {
        private final long[] actions = new long[MOST_CLASHES];
        private final int[] lessers = new int[MOST_CLASHES];
        private final int[] laters = new int[MOST_CLASHES];
        private int count = 0;

        void add(long action, int lesser, int later) {
            if (count >= MOST_CLASHES) {
                return;
            }
            actions[count] = action;
            lessers[count] = lesser;
            laters[count] = later;
            count++;
        }

        boolean has(long action) {
            for (int i = 0; i < count; i++) {
                if (actions[i] == action) {
                    return true;
                }
            }
            return false;
        }

        int numberAt(int i, int side) {
            if (i < 0 || i >= count) {
                return NONE;
            }
            switch (side) {
                case 0:
                    return lessers[i];
                case 1:
                    return laters[i];
                default:
                    return NONE;
            }
        }
    }

    /** The rules; NONE stands for any target or any branch, and for no rule at all. */
    private static final class Rules {
        private final int[] targets = new int[MOST_RULES];
        private final int[] branches = new int[MOST_RULES];
        private final int[] levels = new int[MOST_RULES];
        private final int[] wanteds = new int[MOST_RULES];
        private int count = 0;

        int add(int target, int branch, int level, int wanted) {
            if (count >= MOST_RULES || !isPlaceOrAny(target) || !isPlaceOrAny(branch)) {
                return NONE;
            }
            if (!isLevel(level) || wanted < LEAST_WANTED || wanted > MOST_WANTED) {
                return NONE;
            }
            int number = count;
            targets[number] = target;
            branches[number] = branch;
            levels[number] = level;
            wanteds[number] = wanted;
            count++;
            return number;
        }

        int best(int target, int branch) {
            int best = NONE;
            int bestRank = 0;
            for (int i = 0; i < count; i++) {
                int rank = rankFor(i, target, branch);
                // A rule of the same rank that came later goes ahead.
                if (rank != NONE && rank >= bestRank) {
                    best = i;
                    bestRank = rank;
                }
            }
            return best;
        }

        int levelOf(int number) {
            return has(number) ? levels[number] : PIPELINE_LEVEL;
        }

        int wantedOf(int number, int quorum) {
            return has(number) ? wanteds[number] : quorum;
        }

        private boolean has(int number) {
            return number >= 0 && number < count;
        }

        // A named target weighs more than a named branch, and both together more than either.
        private int rankFor(int number, int target, int branch) {
            if (!has(number)) {
                return NONE;
            }
            boolean anyTarget = targets[number] == NONE;
            boolean anyBranch = branches[number] == NONE;
            boolean targetFits = anyTarget || targets[number] == target;
            boolean branchFits = anyBranch || branches[number] == branch;
            if (!targetFits || !branchFits) {
                return NONE;
            }
            return (anyTarget ? 0 : 2) + (anyBranch ? 0 : 1);
        }
    }

    /** What was taken, a row each; what is taken when it is full leaves no row. */
    private static final class AuditRows {
        private final int[] cells = new int[MOST_AUDIT_ROWS * AUDIT_COLUMNS];
        private int count = 0;

        void add(int target, int branch, int ruleNumber, int agreeing, int first) {
            if (count >= MOST_AUDIT_ROWS) {
                return;
            }
            int start = count * AUDIT_COLUMNS;
            cells[start] = target;
            cells[start + 1] = branch;
            cells[start + 2] = ruleNumber;
            cells[start + 3] = agreeing;
            cells[start + 4] = first;
            count++;
        }

        int valueAt(int i, int what) {
            if (i < 0 || i >= count || what < 0 || what >= AUDIT_COLUMNS) {
                return NONE;
            }
            return cells[i * AUDIT_COLUMNS + what];
        }
    }
}
