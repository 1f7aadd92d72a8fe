/** Promise 10, and the terms on own results: they go ahead of all, if they count. */
public final class OwnTest {
    private static final Check CHECK = new Check("OwnTest");

    public static void main(String[] args) {
        onAndOff();
        levelNoughtAlone();
        notAfterTheTime();
        latestByTime();
        ofLikeOnesTheLast();
        notDropped();
        ofThatAction();
        aheadOfTheRule();
        aheadOfAClash();
        offTheyMayCountByTheRule();
        outsideAllTheSame();
        CHECK.end();
    }

    // "OWN ones count, or not".
    private static void onAndOff() {
        TrustRows x = Setup.withWriters(1, 0, 1);
        Setup.tell(x, 0, 1L, 8L, 5L);
        Setup.tell(x, 1, 1L, 9L, 3L);
        dueTake(x, "from the start", 5L, 1, 9L);
        x.own(false);
        dueTake(x, "off once more", 5L, 1, 9L);
        x.own(true);
        dueTake(x, "on", 5L, 2, 8L);
        x.own(true);
        dueTake(x, "on twice", 5L, 2, 8L);
        x.own(false);
        dueTake(x, "off again", 5L, 1, 9L);
    }

    private static void dueTake(TrustRows x, String name, long time, int answer, long digest) {
        CHECK.due("take, " + name, x.take(1L, 0, 0, time), answer);
        CHECK.due("taken, " + name, x.taken(), digest);
    }

    // "of a WRITER of LEVEL 0".
    private static void levelNoughtAlone() {
        for (int level = 0; level < 3; level++) {
            TrustRows x = Setup.withWriters(1, level);
            x.own(true);
            Setup.tell(x, 0, 1L, 9L, 0L);
            CHECK.due("take of level " + level, x.take(1L, 0, 0, 0L), level == 0 ? 2L : 1L);
        }
    }

    // "whose TIME isn't after it".
    private static void notAfterTheTime() {
        TrustRows x = Setup.withWriters(1, 0, 1);
        x.own(true);
        Setup.tell(x, 0, 1L, 8L, 5L);
        Setup.tell(x, 1, 1L, 9L, 3L);
        CHECK.due("before both", x.take(1L, 0, 0, 2L), -1L);
        dueTake(x, "before the own one", 4L, 1, 9L);
        dueTake(x, "at it", 5L, 2, 8L);
        dueTake(x, "after it", 6L, 2, 8L);
        dueTake(x, "at the end", Long.MAX_VALUE, 2, 8L);
        TrustRows y = Setup.withWriters(1, 0);
        y.own(true);
        Setup.tell(y, 0, 1L, 8L, 0L);
        dueTake(y, "at 0", 0L, 2, 8L);
    }

    // "the latest one by TIME".
    private static void latestByTime() {
        TrustRows x = Setup.withWriters(1, 0, 0, 0);
        x.own(true);
        Setup.tell(x, 0, 1L, 11L, 7L);
        Setup.tell(x, 1, 1L, 12L, 9L);
        Setup.tell(x, 2, 1L, 13L, 8L);
        Setup.tell(x, 2, 1L, 15L, 0L);
        long[] times = {0L, 6L, 7L, 8L, 9L, Long.MAX_VALUE};
        long[] digests = {15L, 15L, 11L, 13L, 12L, 12L};
        for (int i = 0; i < times.length; i++) {
            dueTake(x, "at " + times[i], times[i], 2, digests[i]);
        }
    }

    // "of like ones the one that came last".
    private static void ofLikeOnesTheLast() {
        TrustRows x = Setup.withWriters(1, 0, 0);
        x.own(true);
        long[] moments = {0L, 9L};
        for (long time : moments) {
            for (long digest = 11L; digest < 14L; digest++) {
                Setup.tell(x, (int) digest % 2, 1L, digest + time, time);
                dueTake(x, "the last at " + time, 9L, 2, digest + time);
            }
        }
        Setup.tell(x, 0, 1L, 99L, 8L);
        dueTake(x, "one that came last, of an earlier time", 9L, 2, 22L);
    }

    // "a RESULT that isn't dropped".
    private static void notDropped() {
        TrustRows x = Setup.withWriters(1, 0, 0, 1);
        x.own(true);
        Setup.tell(x, 0, 1L, 8L, 5L);
        Setup.tell(x, 1, 1L, 7L, 4L);
        Setup.tell(x, 2, 1L, 9L, 0L);
        dueTake(x, "both", 5L, 2, 8L);
        x.bar(0);
        dueTake(x, "without the later one", 5L, 2, 7L);
        x.bar(1);
        dueTake(x, "without both", 5L, 1, 9L);
        x.bar(2);
        CHECK.due("without any", x.take(1L, 0, 0, 5L), -1L);
    }

    private static void ofThatAction() {
        TrustRows x = Setup.withWriters(1, 0);
        x.own(true);
        Setup.tell(x, 0, 0L, 8L, 0L);
        CHECK.due("another action", x.take(Long.MIN_VALUE, 0, 0, 0L), -1L);
        CHECK.due("that action", x.take(0L, 0, 0, 0L), 2L);
    }

    private static void aheadOfTheRule() {
        TrustRows x = Setup.withWriters(5, 0, 2);
        x.own(true);
        x.rule(TrustRows.NONE, TrustRows.NONE, 2, 1);
        Setup.tell(x, 0, 1L, 8L, 1L);
        Setup.tell(x, 1, 1L, 9L, 0L);
        dueTake(x, "a rule of level 2", 1L, 2, 8L);
        dueTake(x, "by the rule before it", 0L, 1, 9L);
        CHECK.due("counted has no own one", x.counted(1L, 0, 0, 1L), 1L);
    }

    // "Else, if the ACTION is CLASHING".
    private static void aheadOfAClash() {
        TrustRows x = Setup.withWriters(1, 1, 2, 0);
        Setup.tell(x, 0, 1L, 9L, 0L);
        Setup.tell(x, 1, 1L, 8L, 10L);
        Setup.tell(x, 2, 1L, 7L, 5L);
        CHECK.due("a clash, own off", x.take(1L, 0, 0, 20L), 0L);
        x.own(true);
        dueTake(x, "own ahead of the clash", 20L, 2, 7L);
        CHECK.due("the clash before the own one", x.take(1L, 0, 0, 4L), 0L);
        x.bar(2);
        CHECK.due("the clash without the own one", x.take(1L, 0, 0, 20L), 0L);
    }

    private static void offTheyMayCountByTheRule() {
        TrustRows x = Setup.withWriters(5, 0, 1);
        x.rule(0, 0, 0, 2);
        Setup.tell(x, 0, 1L, 9L, 0L);
        CHECK.due("an own one alone", x.take(1L, 0, 0, 0L), -1L);
        Setup.tell(x, 1, 1L, 9L, 0L);
        CHECK.due("with another, by a rule of level 0", x.take(1L, 0, 0, 0L), 1L);
    }

    private static void outsideAllTheSame() {
        TrustRows x = Setup.withWriters(1, 0);
        x.own(true);
        Setup.tell(x, 0, 1L, 9L, 0L);
        CHECK.due("target 8", x.take(1L, 8, 0, 0L), -2L);
        CHECK.due("branch -1", x.take(1L, 0, -1, 0L), -2L);
        CHECK.due("time -1", x.take(1L, 0, 0, -1L), -2L);
        CHECK.due("nothing was taken", x.taken(), 0L);
    }
}
