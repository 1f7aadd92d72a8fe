/** Promise 13: how many writers would count. */
public final class CountedTest {
    private static final Check CHECK = new Check("CountedTest");
    private static final int ANY = TrustRows.NONE;

    public static void main(String[] args) {
        outside();
        noWriterToAllTwelve();
        differentWriters();
        byLevel();
        byTime();
        timeBelowNought();
        clashingOrNot();
        whateverTheDigests();
        whateverIsWanted();
        ownOrNot();
        notDropped();
        ofThatAction();
        takesNothing();
        CHECK.end();
    }

    // "NONE if TARGET or BRANCH aren't 0 .. 7".
    private static void outside() {
        TrustRows x = Setup.withWriters(1, 1);
        x.rule(ANY, ANY, 1, 1);
        Setup.tell(x, 0, 1L, 9L, 0L);
        int[] wrong = {-1, 8, -2, 9, Integer.MIN_VALUE, Integer.MAX_VALUE};
        for (int place : wrong) {
            CHECK.due("target " + place, x.counted(1L, place, 0, 0L), TrustRows.NONE);
            CHECK.due("branch " + place, x.counted(1L, 0, place, 0L), TrustRows.NONE);
            CHECK.due("both " + place, x.counted(1L, place, place, 0L), TrustRows.NONE);
            CHECK.due("none told, target " + place, x.counted(2L, place, 0, 0L), TrustRows.NONE);
        }
        for (int place = 0; place < 64; place++) {
            CHECK.due("counted at " + place, x.counted(1L, place / 8, place % 8, 0L), 1L);
        }
    }

    private static void noWriterToAllTwelve() {
        TrustRows x = Setup.withWriters(1, 1, 2, 1, 2, 1, 2, 1, 2, 1, 2, 1, 2);
        for (int writer = 0; writer < 12; writer++) {
            CHECK.due(writer + " told it", x.counted(1L, 0, 0, 0L), writer);
            Setup.tell(x, writer, 1L, 9L, 0L);
        }
        CHECK.due("all told it", x.counted(1L, 0, 0, 0L), 12L);
    }

    // "How many different WRITERS".
    private static void differentWriters() {
        TrustRows x = Setup.withWriters(1, 1, 1);
        Setup.tell(x, 0, 1L, 9L, 0L);
        Setup.tell(x, 0, 1L, 8L, 0L);
        Setup.tell(x, 0, 1L, 7L, 0L);
        CHECK.due("one writer three times", x.counted(1L, 0, 0, 0L), 1L);
        Setup.tell(x, 1, 1L, 7L, 0L);
        CHECK.due("a second writer", x.counted(1L, 0, 0, 0L), 2L);
    }

    // "by LEVEL": a writer of just the least one counts.
    private static void byLevel() {
        TrustRows x = Setup.withWriters(5, 0, 1, 1, 2, 2, 2);
        for (int writer = 0; writer < 6; writer++) {
            Setup.tell(x, writer, 1L, 9L, 0L);
        }
        x.rule(0, ANY, 0, 1);
        x.rule(1, ANY, 1, 1);
        x.rule(2, ANY, 2, 1);
        CHECK.due("level 0", x.counted(1L, 0, 0, 0L), 6L);
        CHECK.due("level 1", x.counted(1L, 1, 0, 0L), 5L);
        CHECK.due("level 2", x.counted(1L, 2, 0, 0L), 3L);
        CHECK.due("without a rule", x.counted(1L, 3, 0, 0L), 5L);
    }

    // "and TIME": one at just that time counts.
    private static void byTime() {
        TrustRows x = Setup.withWriters(1, 1, 1, 1);
        Setup.tell(x, 0, 1L, 9L, 20L);
        Setup.tell(x, 1, 1L, 9L, 10L);
        Setup.tell(x, 2, 1L, 9L, Long.MAX_VALUE - 1L);
        long[] times = {0L, 9L, 10L, 19L, 20L, Long.MAX_VALUE - 2L, Long.MAX_VALUE - 1L, Long.MAX_VALUE};
        int[] due = {0, 0, 1, 1, 2, 2, 3, 3};
        for (int i = 0; i < times.length; i++) {
            CHECK.due("counted at " + times[i], x.counted(1L, 0, 0, times[i]), due[i]);
        }
    }

    // A time below 0 isn't among what makes it NONE: no result is that early.
    private static void timeBelowNought() {
        TrustRows x = Setup.withWriters(1, 1);
        Setup.tell(x, 0, 1L, 9L, 0L);
        CHECK.due("time 0", x.counted(1L, 0, 0, 0L), 1L);
        CHECK.due("time -1", x.counted(1L, 0, 0, -1L), 0L);
        CHECK.due("time least", x.counted(1L, 0, 0, Long.MIN_VALUE), 0L);
        CHECK.due("time -1, target 8", x.counted(1L, 8, 0, -1L), TrustRows.NONE);
        CHECK.due("time -1, branch -1", x.counted(1L, 0, -1, -1L), TrustRows.NONE);
    }

    // "(CLASHING or not)".
    private static void clashingOrNot() {
        TrustRows x = Setup.withWriters(1, 1, 2, 1);
        Setup.tell(x, 0, 1L, 9L, 0L);
        CHECK.due("before the clash", x.counted(1L, 0, 0, 5L), 1L);
        Setup.tell(x, 1, 1L, 8L, 0L);
        CHECK.due("a clash", x.take(1L, 0, 0, 5L), 0L);
        CHECK.due("counted in the clash", x.counted(1L, 0, 0, 5L), 2L);
        Setup.tell(x, 2, 1L, 8L, 5L);
        CHECK.due("counted after it", x.counted(1L, 0, 0, 5L), 3L);
    }

    // "by LEVEL and TIME alone".
    private static void whateverTheDigests() {
        TrustRows x = Setup.withWriters(1, 0, 0, 1);
        x.rule(ANY, ANY, 0, 1);
        for (int writer = 0; writer < 3; writer++) {
            Setup.tell(x, writer, 1L, writer, 0L);
        }
        CHECK.due("take of three digests", x.take(1L, 0, 0, 0L), -1L);
        CHECK.due("counted of three digests", x.counted(1L, 0, 0, 0L), 3L);
    }

    private static void whateverIsWanted() {
        TrustRows x = Setup.withWriters(5, 1, 1);
        Setup.tell(x, 0, 1L, 9L, 0L);
        Setup.tell(x, 1, 1L, 9L, 0L);
        CHECK.due("fewer than the quorum", x.counted(1L, 0, 0, 0L), 2L);
        x.rule(0, 0, 1, 1);
        CHECK.due("more than wanted", x.counted(1L, 0, 0, 0L), 2L);
    }

    private static void ownOrNot() {
        TrustRows x = Setup.withWriters(1, 0, 1);
        Setup.tell(x, 0, 1L, 9L, 0L);
        Setup.tell(x, 1, 1L, 9L, 0L);
        CHECK.due("own ones don't count", x.counted(1L, 0, 0, 0L), 1L);
        x.own(true);
        CHECK.due("own ones count", x.counted(1L, 0, 0, 0L), 1L);
        x.rule(0, 0, 0, 1);
        CHECK.due("by a rule of level 0", x.counted(1L, 0, 0, 0L), 2L);
    }

    private static void notDropped() {
        TrustRows x = Setup.withWriters(1, 1, 1);
        Setup.tell(x, 0, 1L, 9L, 0L);
        Setup.tell(x, 1, 1L, 9L, 0L);
        x.bar(0);
        CHECK.due("after a barring", x.counted(1L, 0, 0, 0L), 1L);
        x.bar(1);
        CHECK.due("after both", x.counted(1L, 0, 0, 0L), 0L);
    }

    private static void ofThatAction() {
        int[] bits = {0, 31, 32, 63};
        TrustRows x = Setup.withWriters(1, 1);
        Setup.tell(x, 0, 0L, 9L, 0L);
        for (int bit : bits) {
            CHECK.due("another action, bit " + bit, x.counted(1L << bit, 0, 0, 0L), 0L);
        }
        CHECK.due("that action", x.counted(0L, 0, 0, 0L), 1L);
    }

    private static void takesNothing() {
        TrustRows x = Setup.withWriters(1, 1);
        Setup.tell(x, 0, 1L, 9L, 0L);
        x.counted(1L, 0, 0, 0L);
        CHECK.due("taken", x.taken(), 0L);
        CHECK.due("audit", x.audit(0, 0), TrustRows.NONE);
    }
}
