/** Promises 11 and 12, and the terms on taking by a rule. Own results are OwnTest's. */
public final class TakeTest {
    private static final Check CHECK = new Check("TakeTest");
    private static final int ANY = TrustRows.NONE;

    public static void main(String[] args) {
        outside();
        outsideGoesAheadOfAll();
        timeBelowNought();
        withoutARule();
        asManyAsWantedOrMore();
        differentWritersCount();
        levelOrMore();
        notAfterTheTime();
        notDropped();
        ofThatAction();
        allMustTellOneDigest();
        oneDigestToTheBit();
        disagreementOutOfSight();
        clashGoesAheadOfTooFew();
        tooFewOrNone();
        nothingWasTaken();
        latestThatWasTaken();
        takenStays();
        everythingFull();
        CHECK.end();
    }

    // "- 2 if TARGET or BRANCH aren't 0 .. 7".
    private static void outside() {
        TrustRows x = Setup.withWriters(1, 1);
        Setup.tell(x, 0, 1L, 9L, 0L);
        int[] wrong = {-1, 8, -2, 9, Integer.MIN_VALUE, Integer.MAX_VALUE};
        for (int place : wrong) {
            CHECK.due("target " + place, x.take(1L, place, 0, 0L), -2L);
            CHECK.due("branch " + place, x.take(1L, 0, place, 0L), -2L);
            CHECK.due("both " + place, x.take(1L, place, place, 0L), -2L);
        }
        CHECK.due("nothing was taken", x.taken(), 0L);
        CHECK.due("nothing is in the audit", x.audit(0, 0), TrustRows.NONE);
        for (int place = 0; place < 64; place++) {
            CHECK.due("take at " + place, x.take(1L, place / 8, place % 8, 0L), 1L);
        }
    }

    private static void outsideGoesAheadOfAll() {
        TrustRows x = Setup.withWriters(1, 1, 1);
        x.rule(ANY, ANY, 1, 1);
        Setup.tell(x, 0, 1L, 9L, 0L);
        Setup.tell(x, 1, 1L, 8L, 0L);
        CHECK.due("a clash, target any", x.take(1L, ANY, 0, 0L), -2L);
        CHECK.due("a clash, branch any", x.take(1L, 0, ANY, 0L), -2L);
        CHECK.due("a clash, time -1", x.take(1L, 0, 0, -1L), -2L);
        CHECK.due("too few, target 8", x.take(2L, 8, 0, 0L), -2L);
        CHECK.due("too few, time -1", x.take(2L, 0, 0, -1L), -2L);
        CHECK.due("a clash", x.take(1L, 0, 0, 0L), 0L);
        CHECK.due("too few", x.take(2L, 0, 0, 0L), -1L);
    }

    // "- 2 if ... TIME is below 0".
    private static void timeBelowNought() {
        TrustRows x = Setup.withWriters(1, 1);
        Setup.tell(x, 0, 1L, 9L, 0L);
        CHECK.due("time -1", x.take(1L, 0, 0, -1L), -2L);
        CHECK.due("time -2 to the 32", x.take(1L, 0, 0, -(1L << 32)), -2L);
        CHECK.due("time least", x.take(1L, 0, 0, Long.MIN_VALUE), -2L);
        CHECK.due("nothing was taken", x.taken(), 0L);
        CHECK.due("time 0", x.take(1L, 0, 0, 0L), 1L);
    }

    // "Without any: LEVEL 1, and as many as the QUORUM".
    private static void withoutARule() {
        TrustRows x = Setup.withWriters(3, 1, 2, 1, 0);
        Setup.tell(x, 0, 1L, 9L, 0L);
        Setup.tell(x, 3, 1L, 9L, 0L);
        Setup.tell(x, 1, 1L, 9L, 0L);
        CHECK.due("two of three, and an own one", x.take(1L, 0, 0, 0L), -1L);
        Setup.tell(x, 2, 1L, 9L, 0L);
        CHECK.due("three of three", x.take(1L, 0, 0, 0L), 1L);
        CHECK.due("taken", x.taken(), 9L);
        x.rule(0, 1, 1, 4);
        CHECK.due("where there is a rule", x.take(1L, 0, 1, 0L), -1L);
        CHECK.due("where there is none", x.take(1L, 0, 0, 0L), 1L);
    }

    // "as many different WRITERS as the RULE wants, or more".
    private static void asManyAsWantedOrMore() {
        TrustRows x = Setup.withWriters(1, 1, 1, 1, 1, 1, 1, 1);
        for (int wanted = 1; wanted <= 5; wanted++) {
            x.rule(wanted, ANY, 1, wanted);
        }
        for (int agree = 0; agree <= 7; agree++) {
            for (int wanted = 1; wanted <= 5; wanted++) {
                String call = agree + " agree, " + wanted + " wanted";
                CHECK.due(call, x.take(1L, wanted, 0, 0L), agree >= wanted ? 1L : -1L);
            }
            Setup.tell(x, agree, 1L, 9L, 0L);
        }
    }

    // "different WRITERS".
    private static void differentWritersCount() {
        TrustRows x = Setup.withWriters(2, 0, 0);
        x.rule(0, 0, 0, 2);
        Setup.tell(x, 0, 1L, 9L, 0L);
        Setup.tell(x, 0, 1L, 8L, 5L);
        CHECK.due("one writer twice", x.take(1L, 0, 0, 5L), -1L);
        Setup.tell(x, 1, 1L, 9L, 0L);
        CHECK.due("two digests", x.take(1L, 0, 0, 5L), -1L);
        CHECK.due("before the second digest", x.take(1L, 0, 0, 4L), 1L);
        TrustRows y = Setup.withWriters(1, 1, 1, 1, 1, 1, 1, 1, 1, 1, 1, 1, 1);
        for (int writer = 0; writer < 12; writer++) {
            Setup.tell(y, writer, -5L, -9L, 0L);
        }
        CHECK.due("take of all twelve", y.take(-5L, 0, 0, 0L), 1L);
        CHECK.due("a digest below 0", y.taken(), -9L);
    }

    // "whose WRITERS have the RULE's LEVEL or more".
    private static void levelOrMore() {
        for (int level = 0; level < 3; level++) {
            TrustRows x = Setup.withWriters(5, level);
            for (int least = 0; least < 3; least++) {
                x.rule(least, ANY, least, 1);
            }
            Setup.tell(x, 0, 1L, 9L, 0L);
            for (int least = 0; least < 3; least++) {
                String call = "level " + level + ", least " + least;
                CHECK.due(call, x.take(1L, least, 0, 0L), level >= least ? 1L : -1L);
            }
        }
    }

    // "whose TIME isn't after it".
    private static void notAfterTheTime() {
        TrustRows x = Setup.withWriters(2, 1, 1);
        Setup.tell(x, 0, 1L, 9L, 20L);
        Setup.tell(x, 1, 1L, 9L, 10L);
        CHECK.due("before both", x.take(1L, 0, 0, 9L), -1L);
        CHECK.due("at the first", x.take(1L, 0, 0, 10L), -1L);
        CHECK.due("before the second", x.take(1L, 0, 0, 19L), -1L);
        CHECK.due("at the second", x.take(1L, 0, 0, 20L), 1L);
        CHECK.due("at the end", x.take(1L, 0, 0, Long.MAX_VALUE), 1L);
        TrustRows y = Setup.withWriters(1, 1);
        Setup.tell(y, 0, 1L, 9L, Long.MAX_VALUE - 1L);
        CHECK.due("before the last moment", y.take(1L, 0, 0, Long.MAX_VALUE - 2L), -1L);
        CHECK.due("at the last moment", y.take(1L, 0, 0, Long.MAX_VALUE - 1L), 1L);
    }

    // "of the RESULTS that aren't dropped".
    private static void notDropped() {
        TrustRows x = Setup.withWriters(2, 1, 1, 2);
        for (int writer = 0; writer < 3; writer++) {
            Setup.tell(x, writer, 1L, 9L, 0L);
        }
        x.bar(1);
        CHECK.due("two are left", x.take(1L, 0, 0, 0L), 1L);
        x.bar(0);
        CHECK.due("one is left", x.take(1L, 0, 0, 0L), -1L);
        x.bar(2);
        CHECK.due("none is left", x.take(1L, 0, 0, 0L), -1L);
    }

    private static void ofThatAction() {
        int[] bits = {0, 31, 32, 63};
        TrustRows x = Setup.withWriters(1, 1);
        Setup.tell(x, 0, 0L, 9L, 0L);
        for (int bit : bits) {
            CHECK.due("another action, bit " + bit, x.take(1L << bit, 0, 0, 0L), -1L);
        }
        CHECK.due("that action", x.take(0L, 0, 0, 0L), 1L);
    }

    // "and all of these RESULTS tell one DIGEST".
    private static void allMustTellOneDigest() {
        TrustRows x = Setup.withWriters(1, 1, 1, 0);
        x.rule(0, 0, 0, 2);
        Setup.tell(x, 0, 1L, 9L, 0L);
        Setup.tell(x, 1, 1L, 9L, 0L);
        CHECK.due("two agree", x.take(1L, 0, 0, 0L), 1L);
        Setup.tell(x, 2, 1L, 0L, 0L);
        CHECK.due("an own one differs", x.take(1L, 0, 0, 0L), -1L);
        CHECK.due("where own ones are below the level", x.take(1L, 0, 1, 0L), 1L);
        CHECK.due("no clash with an own one", x.clash(0, 0), TrustRows.NONE);
    }

    private static void oneDigestToTheBit() {
        int[] bits = {0, 31, 32, 63};
        for (int bit : bits) {
            TrustRows x = Setup.withWriters(1, 1, 0);
            x.rule(ANY, ANY, 0, 1);
            Setup.tell(x, 0, 1L, 0L, 0L);
            Setup.tell(x, 1, 1L, 1L << bit, 1L);
            CHECK.due("before it differs, bit " + bit, x.take(1L, 0, 0, 0L), 1L);
            CHECK.due("when it differs, bit " + bit, x.take(1L, 0, 0, 1L), -1L);
        }
    }

    private static void disagreementOutOfSight() {
        TrustRows x = Setup.withWriters(1, 0, 0);
        x.rule(ANY, ANY, 0, 1);
        Setup.tell(x, 0, 1L, 9L, 5L);
        Setup.tell(x, 1, 1L, 8L, 6L);
        CHECK.due("before the other digest", x.take(1L, 0, 0, 5L), 1L);
        CHECK.due("with the other digest", x.take(1L, 0, 0, 6L), -1L);
        CHECK.due("bar the other", x.bar(1), 1L);
        CHECK.due("without the other digest", x.take(1L, 0, 0, 6L), 1L);
    }

    // "0 if there is none because of a clash".
    private static void clashGoesAheadOfTooFew() {
        TrustRows x = Setup.withWriters(1, 1, 1);
        x.rule(0, 0, 2, 5);
        Setup.tell(x, 0, 1L, 9L, 5L);
        CHECK.due("before it clashes", x.take(1L, 0, 0, 5L), -1L);
        Setup.tell(x, 1, 1L, 8L, 6L);
        CHECK.due("a clash, and too few", x.take(1L, 0, 0, 5L), 0L);
        CHECK.due("a clash, and enough of one digest", x.take(1L, 0, 1, 5L), 0L);
        CHECK.due("a clash, and none at that time", x.take(1L, 0, 1, 0L), 0L);
        CHECK.due("another action", x.take(2L, 0, 1, 5L), -1L);
    }

    // "- 1 because too few agree".
    private static void tooFewOrNone() {
        TrustRows x = Setup.withWriters(2, 1, 1);
        CHECK.due("none", x.take(1L, 0, 0, 0L), -1L);
        Setup.tell(x, 0, 1L, 9L, 0L);
        CHECK.due("one of two", x.take(1L, 0, 0, 0L), -1L);
        Setup.tell(x, 1, 1L, 9L, 0L);
        CHECK.due("two of two", x.take(1L, 0, 0, 0L), 1L);
    }

    // "0 if there was none".
    private static void nothingWasTaken() {
        TrustRows x = Setup.withWriters(1, 1, 1);
        Setup.tell(x, 0, 1L, 9L, 0L);
        Setup.tell(x, 1, 1L, 8L, 0L);
        Setup.tell(x, 0, 2L, 7L, 1L);
        CHECK.due("before any take", x.taken(), 0L);
        x.take(1L, 0, 0, 0L);
        CHECK.due("after a clash", x.taken(), 0L);
        x.take(2L, 0, 0, 0L);
        CHECK.due("after too few", x.taken(), 0L);
        x.take(2L, 8, 0, 1L);
        CHECK.due("after one outside", x.taken(), 0L);
        x.counted(2L, 0, 0, 1L);
        CHECK.due("after counted", x.taken(), 0L);
        x.take(2L, 0, 0, 1L);
        CHECK.due("after a take", x.taken(), 7L);
    }

    // "The DIGEST of the latest take that was 1 or 2".
    private static void latestThatWasTaken() {
        long[] digests = {5L, 0L, -1L, Long.MIN_VALUE, Long.MAX_VALUE, 1L << 32};
        TrustRows x = Setup.withWriters(1, 1, 0);
        x.own(true);
        for (int i = 0; i < digests.length; i++) {
            Setup.tell(x, i % 2, i, digests[i], 0L);
        }
        for (int i = 0; i < digests.length; i++) {
            CHECK.due("take of " + digests[i], x.take(i, 0, 0, 0L), 1L + i % 2);
            CHECK.due("taken", x.taken(), digests[i]);
            CHECK.due("taken again", x.taken(), digests[i]);
        }
    }

    private static void takenStays() {
        TrustRows x = Setup.withWriters(1, 1, 1);
        Setup.tell(x, 0, 1L, 9L, 0L);
        x.take(1L, 0, 0, 0L);
        x.take(3L, 0, 0, 0L);
        CHECK.due("after too few", x.taken(), 9L);
        x.take(1L, 8, 0, 0L);
        CHECK.due("after one outside", x.taken(), 9L);
        Setup.tell(x, 1, 1L, 8L, 0L);
        x.take(1L, 0, 0, 0L);
        CHECK.due("after a clash", x.taken(), 9L);
        x.bar(0);
        CHECK.due("after the barring", x.taken(), 9L);
    }

    private static void everythingFull() {
        TrustRows x = Setup.withWriters(5, 0, 0, 0, 0, 1, 1, 1, 1, 2, 2, 2, 2);
        for (int i = 0; i < 20; i++) {
            x.rule(i % 8, ANY, i % 3, 4);
        }
        for (int i = 0; i < 100; i++) {
            Setup.tell(x, i % 12, i / 12, 9L, i);
        }
        x.own(true);
        CHECK.due("the last action, own", x.take(8L, 0, 0, 99L), 2L);
        CHECK.due("the last action, before it", x.take(8L, 0, 0, 95L), -1L);
        CHECK.due("an action that nobody told", x.take(50L, 0, 0, 99L), -1L);
        x.own(false);
        CHECK.due("the last action, by a rule of level 1", x.take(8L, 0, 0, 99L), -1L);
        CHECK.due("an action that all told", x.take(7L, 0, 0, 99L), 1L);
    }
}
