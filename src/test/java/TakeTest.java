/** Promises 10 to 13: own ones, taking, what was taken, and who would count. */
public final class TakeTest {
    private static final Check CHECK = new Check("TakeTest");

    public static void main(String[] args) {
        wrongQuestions();
        quorumWithoutRule();
        differentWritersCount();
        timeEdges();
        ruleLevelAndWanted();
        allMustTellOneDigest();
        disagreementOutOfSight();
        ownOnes();
        latestOwnByTime();
        ownAheadOfClash();
        droppedOnesDoNotCount();
        takenStays();
        everythingFull();
        CHECK.end();
    }

    private static void wrongQuestions() {
        TrustRows x = Setup.withWriters(1, 1);
        Setup.tell(x, 0, 1L, 9L, 0L);
        int[] wrong = {-1, 8, Integer.MIN_VALUE, Integer.MAX_VALUE};
        for (int place : wrong) {
            CHECK.due("take, target " + place, x.take(1L, place, 0, 0L), -2L);
            CHECK.due("take, branch " + place, x.take(1L, 0, place, 0L), -2L);
            CHECK.due("counted, target " + place, x.counted(1L, place, 0, 0L), TrustRows.NONE);
            CHECK.due("counted, branch " + place, x.counted(1L, 0, place, 0L), TrustRows.NONE);
        }
        CHECK.due("take, time -1", x.take(1L, 0, 0, -1L), -2L);
        CHECK.due("take, time least", x.take(1L, 0, 0, Long.MIN_VALUE), -2L);
        CHECK.due("counted, time -1", x.counted(1L, 0, 0, -1L), 0L);
        CHECK.due("counted, time -1, wrong target", x.counted(1L, 9, 0, -1L), TrustRows.NONE);
        CHECK.due("nothing was taken", x.taken(), 0L);
        CHECK.due("nothing is in the audit", x.audit(0, 0), TrustRows.NONE);
        CHECK.due("take(7, 7)", x.take(1L, 7, 7, 0L), 1L);
    }

    private static void quorumWithoutRule() {
        TrustRows x = Setup.withWriters(3, 1, 2, 1, 0);
        Setup.tell(x, 0, 1L, 9L, 0L);
        Setup.tell(x, 3, 1L, 9L, 0L);
        Setup.tell(x, 1, 1L, 9L, 0L);
        CHECK.due("two of three, and an own one", x.take(1L, 0, 0, 0L), -1L);
        CHECK.due("counted", x.counted(1L, 0, 0, 0L), 2L);
        Setup.tell(x, 2, 1L, 9L, 0L);
        CHECK.due("three of three", x.take(1L, 0, 0, 0L), 1L);
        CHECK.due("taken", x.taken(), 9L);
        CHECK.due("another action", x.take(2L, 0, 0, 0L), -1L);
        CHECK.due("counted of another action", x.counted(2L, 0, 0, 0L), 0L);
    }

    private static void differentWritersCount() {
        TrustRows x = Setup.withWriters(2, 0, 0);
        x.rule(0, 0, 0, 2);
        Setup.tell(x, 0, 1L, 9L, 0L);
        Setup.tell(x, 0, 1L, 8L, 5L);
        CHECK.due("one writer twice", x.counted(1L, 0, 0, 5L), 1L);
        CHECK.due("take", x.take(1L, 0, 0, 5L), -1L);
        Setup.tell(x, 1, 1L, 9L, 0L);
        CHECK.due("two writers of three results", x.counted(1L, 0, 0, 5L), 2L);
        CHECK.due("two digests", x.take(1L, 0, 0, 5L), -1L);
        CHECK.due("before the second digest", x.take(1L, 0, 0, 4L), 1L);
        TrustRows y = Setup.withWriters(1, 1, 1, 1, 1, 1, 1, 1, 1, 1, 1, 1, 1);
        for (int writer = 0; writer < 12; writer++) {
            Setup.tell(y, writer, -5L, -9L, 0L);
        }
        CHECK.due("all twelve", y.counted(-5L, 0, 0, 0L), 12L);
        CHECK.due("take of all twelve", y.take(-5L, 0, 0, 0L), 1L);
        CHECK.due("a digest below 0", y.taken(), -9L);
    }

    private static void timeEdges() {
        TrustRows x = Setup.withWriters(2, 1, 1);
        Setup.tell(x, 0, 1L, 9L, 10L);
        Setup.tell(x, 1, 1L, 9L, 20L);
        CHECK.due("counted before both", x.counted(1L, 0, 0, 9L), 0L);
        CHECK.due("counted at the first", x.counted(1L, 0, 0, 10L), 1L);
        CHECK.due("take before the second", x.take(1L, 0, 0, 19L), -1L);
        CHECK.due("take at the second", x.take(1L, 0, 0, 20L), 1L);
        CHECK.due("take at the end", x.take(1L, 0, 0, Long.MAX_VALUE), 1L);
    }

    private static void ruleLevelAndWanted() {
        TrustRows x = Setup.withWriters(5, 0, 1, 2, 2);
        for (int writer = 0; writer < 4; writer++) {
            Setup.tell(x, writer, 1L, 9L, 0L);
        }
        CHECK.due("without a rule", x.take(1L, 0, 0, 0L), -1L);
        CHECK.due("counted without a rule", x.counted(1L, 0, 0, 0L), 3L);
        x.rule(0, TrustRows.NONE, 2, 2);
        x.rule(1, TrustRows.NONE, 2, 3);
        x.rule(2, TrustRows.NONE, 1, 3);
        x.rule(3, TrustRows.NONE, 0, 4);
        x.rule(4, TrustRows.NONE, 0, 5);
        int[] counted = {2, 2, 3, 4, 4, 3};
        int[] takes = {1, -1, 1, 1, -1, -1};
        for (int target = 0; target < 6; target++) {
            CHECK.due("counted, target " + target, x.counted(1L, target, 0, 0L), counted[target]);
            CHECK.due("take, target " + target, x.take(1L, target, 0, 0L), takes[target]);
        }
    }

    private static void allMustTellOneDigest() {
        TrustRows x = Setup.withWriters(1, 1, 1, 0);
        x.rule(0, 0, 0, 2);
        Setup.tell(x, 0, 1L, 9L, 0L);
        Setup.tell(x, 1, 1L, 9L, 0L);
        CHECK.due("two agree", x.take(1L, 0, 0, 0L), 1L);
        Setup.tell(x, 2, 1L, 0L, 0L);
        CHECK.due("an own one differs", x.take(1L, 0, 0, 0L), -1L);
        CHECK.due("counted all the same", x.counted(1L, 0, 0, 0L), 3L);
        CHECK.due("where own ones are below the level", x.take(1L, 0, 1, 0L), 1L);
        CHECK.due("no clash with an own one", x.clash(0, 0), TrustRows.NONE);
    }

    private static void disagreementOutOfSight() {
        TrustRows x = Setup.withWriters(1, 0, 0);
        x.rule(TrustRows.NONE, TrustRows.NONE, 0, 1);
        Setup.tell(x, 0, 1L, 9L, 5L);
        Setup.tell(x, 1, 1L, 8L, 6L);
        CHECK.due("before the other digest", x.take(1L, 0, 0, 5L), 1L);
        CHECK.due("with the other digest", x.take(1L, 0, 0, 6L), -1L);
        CHECK.due("bar the other", x.bar(1), 1L);
        CHECK.due("without the other digest", x.take(1L, 0, 0, 6L), 1L);
    }

    private static void ownOnes() {
        TrustRows x = Setup.withWriters(1, 0, 1);
        Setup.tell(x, 0, 1L, 8L, 5L);
        Setup.tell(x, 1, 1L, 9L, 3L);
        CHECK.due("own ones don't count", x.take(1L, 0, 0, 5L), 1L);
        CHECK.due("taken", x.taken(), 9L);
        x.own(true);
        CHECK.due("own ones count", x.take(1L, 0, 0, 5L), 2L);
        CHECK.due("taken of own", x.taken(), 8L);
        CHECK.due("counted has no own ones", x.counted(1L, 0, 0, 5L), 1L);
        CHECK.due("before the own one", x.take(1L, 0, 0, 4L), 1L);
        CHECK.due("another action", x.take(2L, 0, 0, 5L), -1L);
        x.own(true);
        CHECK.due("own(true) twice", x.take(1L, 0, 0, 5L), 2L);
        x.own(false);
        CHECK.due("own ones don't count again", x.take(1L, 0, 0, 5L), 1L);
        x.own(true);
        x.rule(0, 0, 2, 5);
        CHECK.due("whatever the rule", x.take(1L, 0, 0, 5L), 2L);
        CHECK.due("own with a wrong target", x.take(1L, 8, 0, 5L), -2L);
        CHECK.due("own with a wrong time", x.take(1L, 0, 0, -1L), -2L);
    }

    private static void latestOwnByTime() {
        TrustRows x = Setup.withWriters(1, 0, 0, 0);
        x.own(true);
        Setup.tell(x, 0, 1L, 11L, 7L);
        Setup.tell(x, 1, 1L, 12L, 9L);
        Setup.tell(x, 2, 1L, 13L, 8L);
        Setup.tell(x, 0, 1L, 14L, 9L);
        Setup.tell(x, 2, 1L, 15L, 0L);
        long[] due = {15L, 15L, 11L, 13L, 14L, 14L};
        long[] times = {0L, 6L, 7L, 8L, 9L, Long.MAX_VALUE};
        for (int i = 0; i < times.length; i++) {
            CHECK.due("take at " + times[i], x.take(1L, 0, 0, times[i]), 2L);
            CHECK.due("taken at " + times[i], x.taken(), due[i]);
        }
        x.bar(0);
        x.take(1L, 0, 0, 9L);
        CHECK.due("taken without the dropped ones", x.taken(), 12L);
    }

    private static void ownAheadOfClash() {
        TrustRows x = Setup.withWriters(1, 1, 2, 0);
        Setup.tell(x, 0, 1L, 9L, 0L);
        Setup.tell(x, 1, 1L, 8L, 10L);
        Setup.tell(x, 2, 1L, 7L, 5L);
        CHECK.due("a clash", x.take(1L, 0, 0, 20L), 0L);
        CHECK.due("a clash, at a time before it", x.take(1L, 0, 0, 0L), 0L);
        CHECK.due("counted all the same", x.counted(1L, 0, 0, 20L), 2L);
        x.own(true);
        CHECK.due("own ahead of the clash", x.take(1L, 0, 0, 20L), 2L);
        CHECK.due("the clash before the own one", x.take(1L, 0, 0, 4L), 0L);
        CHECK.due("taken", x.taken(), 7L);
        x.rule(TrustRows.NONE, TrustRows.NONE, 2, 5);
        CHECK.due("a clash ahead of too few", x.take(1L, 0, 0, 4L), 0L);
    }

    private static void droppedOnesDoNotCount() {
        TrustRows x = Setup.withWriters(1, 1, 1, 0);
        Setup.tell(x, 0, 1L, 9L, 0L);
        Setup.tell(x, 1, 1L, 9L, 0L);
        Setup.tell(x, 2, 1L, 7L, 0L);
        x.own(true);
        x.bar(2);
        CHECK.due("without the own one", x.take(1L, 0, 0, 0L), 1L);
        x.bar(0);
        CHECK.due("counted after a barring", x.counted(1L, 0, 0, 0L), 1L);
        x.bar(1);
        CHECK.due("counted after both", x.counted(1L, 0, 0, 0L), 0L);
        CHECK.due("take after both", x.take(1L, 0, 0, 0L), -1L);
    }

    private static void takenStays() {
        TrustRows x = Setup.withWriters(1, 1);
        Setup.tell(x, 0, 1L, 9L, 0L);
        Setup.tell(x, 0, 2L, 0L, 0L);
        x.take(1L, 0, 0, 0L);
        x.take(3L, 0, 0, 0L);
        x.take(1L, 8, 0, 0L);
        CHECK.due("after takes of none", x.taken(), 9L);
        x.bar(0);
        CHECK.due("after the barring", x.taken(), 9L);
        TrustRows y = Setup.withWriters(1, 1);
        Setup.tell(y, 0, 1L, 9L, 0L);
        Setup.tell(y, 0, 2L, 0L, 0L);
        y.take(1L, 0, 0, 0L);
        CHECK.due("take of the digest 0", y.take(2L, 0, 0, 0L), 1L);
        CHECK.due("taken 0", y.taken(), 0L);
    }

    private static void everythingFull() {
        TrustRows x = Setup.withWriters(5, 0, 0, 0, 0, 1, 1, 1, 1, 2, 2, 2, 2);
        for (int i = 0; i < 20; i++) {
            x.rule(i % 8, TrustRows.NONE, i % 3, 4);
        }
        for (int i = 0; i < 100; i++) {
            Setup.tell(x, i % 12, i / 12, 9L, i);
        }
        x.own(true);
        CHECK.due("the last action, own", x.take(8L, 0, 0, 99L), 2L);
        CHECK.due("the last action, before it", x.take(8L, 0, 0, 95L), -1L);
        CHECK.due("an action that nobody told", x.take(50L, 0, 0, 99L), -1L);
        CHECK.due("counted of it", x.counted(50L, 0, 0, 99L), 0L);
        x.own(false);
        CHECK.due("the last action, by a rule of level 1", x.take(8L, 0, 0, 99L), -1L);
        CHECK.due("an action that all told", x.take(7L, 0, 0, 99L), 1L);
        CHECK.due("counted of it by level 1", x.counted(7L, 0, 0, 99L), 8L);
        CHECK.due("counted of it by level 2", x.counted(7L, 1, 0, 99L), 4L);
        CHECK.due("counted of it by level 0", x.counted(7L, 2, 0, 99L), 12L);
    }
}
