/** Promises 5 and 6, and the terms on results: which are taken up, and which stand. */
public final class ResultTest {
    private static final Check CHECK = new Check("ResultTest");

    public static void main(String[] args) {
        noSuchWriter();
        barredWriter();
        timeBelowNought();
        spanEdges();
        spanAtTheEndsOfTime();
        spansSideBySide();
        onlyKeysOfThatWriterFit();
        everyBitOfTheSumCounts();
        sumByAnotherWay();
        keysThatAreThereWhenItComes();
        unfitOnesAreNotTakenUp();
        likeOnes();
        likeOnesToTheBit();
        likeOnesAreNotTakenUp();
        atMostAHundred();
        droppedOnesCountAmongTheHundred();
        oneBeyondAHundredIsNotTakenUp();
        orderOfRefusals();
        orderOfRefusalsWhenFull();
        standing();
        standingAtTheLast();
        CHECK.end();
    }

    // "- 1 if there is no such WRITER".
    private static void noSuchWriter() {
        TrustRows x = Setup.withWriters(1, 1, 1);
        int[] wrong = {-1, 2, 11, 12, Integer.MIN_VALUE, Integer.MAX_VALUE};
        for (int writer : wrong) {
            CHECK.due("writer " + writer, x.result(writer, 1L, 1L, Setup.keyOf(0), 0L, 0L), -1L);
        }
        CHECK.due("writer 0", Setup.tell(x, 0, 1L, 1L, 0L), 0L);
        CHECK.due("writer 1", Setup.tell(x, 1, 1L, 1L, 0L), 1L);
        TrustRows y = Setup.withWriters(1, 1, 1, 1, 1, 1, 1, 1, 1, 1, 1, 1, 1);
        CHECK.due("writer 12 of 12", Setup.tell(y, 12, 1L, 1L, 0L), -1L);
        CHECK.due("writer 11 of 12", Setup.tell(y, 11, 1L, 1L, 0L), 0L);
    }

    // "- 1 if ... it is BARRED"; "for good".
    private static void barredWriter() {
        TrustRows x = Setup.withWriters(1, 1, 1);
        CHECK.due("before the barring", Setup.tell(x, 1, 1L, 1L, 0L), 0L);
        x.bar(1);
        CHECK.due("one like its dropped one", Setup.tell(x, 1, 1L, 1L, 0L), -1L);
        CHECK.due("another one", Setup.tell(x, 1, 2L, 2L, 0L), -1L);
        x.bar(1);
        x.key(1, 5L, 0L, 10L);
        x.writer(1);
        CHECK.due("it stays barred", Setup.tell(x, 1, 2L, 2L, 0L), -1L);
        CHECK.due("the other writer", Setup.tell(x, 0, 1L, 1L, 0L), 1L);
    }

    // "a TIME (0 or more)"; "- 1 if ... TIME is below 0".
    private static void timeBelowNought() {
        TrustRows x = Setup.withWriters(1, 1);
        CHECK.due("time -1", Setup.tell(x, 0, 1L, 1L, -1L), -1L);
        CHECK.due("time -2 to the 32", Setup.tell(x, 0, 1L, 1L, -(1L << 32)), -1L);
        CHECK.due("time least", Setup.tell(x, 0, 1L, 1L, Long.MIN_VALUE), -1L);
        CHECK.due("time 0", Setup.tell(x, 0, 1L, 1L, 0L), 0L);
        CHECK.due("time 1", Setup.tell(x, 0, 2L, 1L, 1L), 1L);
    }

    // "a span FROM (counts) UNTIL (counts no more)".
    private static void spanEdges() {
        TrustRows x = new TrustRows(1);
        x.writer(1);
        x.key(0, 5L, 10L, 20L);
        CHECK.due("before from", x.result(0, 1L, 1L, 5L, 0L, 9L), -2L);
        CHECK.due("at from", x.result(0, 1L, 1L, 5L, 0L, 10L), 0L);
        CHECK.due("before until", x.result(0, 2L, 1L, 5L, 0L, 19L), 1L);
        CHECK.due("at until", x.result(0, 3L, 1L, 5L, 0L, 20L), -2L);
        CHECK.due("behind until", x.result(0, 3L, 1L, 5L, 0L, 21L), -2L);
        CHECK.due("long after", x.result(0, 3L, 1L, 5L, 0L, Long.MAX_VALUE), -2L);
        CHECK.due("time 0", x.result(0, 3L, 1L, 5L, 0L, 0L), -2L);
    }

    private static void spanAtTheEndsOfTime() {
        TrustRows x = new TrustRows(1);
        x.writer(1);
        x.key(0, 5L, 0L, 1L);
        x.key(0, 6L, Long.MAX_VALUE - 1L, Long.MAX_VALUE);
        CHECK.due("the first moment", x.result(0, 1L, 1L, 5L, 0L, 0L), 0L);
        CHECK.due("the second moment", x.result(0, 2L, 1L, 5L, 0L, 1L), -2L);
        CHECK.due("before the last span", x.result(0, 3L, 1L, 6L, 0L, Long.MAX_VALUE - 2L), -2L);
        CHECK.due("in the last span", x.result(0, 3L, 1L, 6L, 0L, Long.MAX_VALUE - 1L), 1L);
        CHECK.due("behind the last span", x.result(0, 4L, 1L, 6L, 0L, Long.MAX_VALUE), -2L);
    }

    private static void spansSideBySide() {
        TrustRows x = new TrustRows(1);
        x.writer(1);
        x.key(0, 6L, 10L, 20L);
        x.key(0, 5L, 0L, 10L);
        x.key(0, 5L, 25L, 30L);
        CHECK.due("the former key at its last moment", x.result(0, 1L, 1L, 5L, 0L, 9L), 0L);
        CHECK.due("the latter key before its first moment", x.result(0, 2L, 1L, 6L, 0L, 9L), -2L);
        CHECK.due("the former key where the latter begins", x.result(0, 2L, 1L, 5L, 0L, 10L), -2L);
        CHECK.due("the latter key at its first moment", x.result(0, 2L, 1L, 6L, 0L, 10L), 1L);
        CHECK.due("the same key, between its spans", x.result(0, 3L, 1L, 5L, 0L, 24L), -2L);
        CHECK.due("the same key, second span", x.result(0, 3L, 1L, 5L, 0L, 25L), 2L);
    }

    // "It FITS if a KEY of that WRITER ... gives that SUM".
    private static void onlyKeysOfThatWriterFit() {
        TrustRows x = Setup.withWriters(1, 1, 1);
        CHECK.due("another's key", x.result(0, 1L, 1L, Setup.keyOf(1), 0L, 0L), -2L);
        CHECK.due("its own key", x.result(0, 1L, 1L, Setup.keyOf(0), 0L, 0L), 0L);
        CHECK.due("the other with its own", x.result(1, 1L, 1L, Setup.keyOf(1), 0L, 0L), 1L);
    }

    private static void everyBitOfTheSumCounts() {
        TrustRows x = Setup.withWriters(1, 1);
        for (int bit = 0; bit < 64; bit++) {
            CHECK.due("bit " + bit + " off", x.result(0, 1L, 1L, Setup.keyOf(0), 1L << bit, 0L), -2L);
        }
        CHECK.due("no bit off", x.result(0, 1L, 1L, Setup.keyOf(0), 0L, 0L), 0L);
    }

    // "Its SUM is that under a number in place of a KEY, xor the other number".
    private static void sumByAnotherWay() {
        TrustRows x = Setup.withWriters(1, 1);
        long xor = x.sum(77L, 1L, 2L) ^ x.sum(Setup.keyOf(0), 1L, 2L);
        CHECK.due("the same for another digest", x.result(0, 1L, 3L, 77L, xor, 0L), -2L);
        CHECK.due("the same for another action", x.result(0, 2L, 2L, 77L, xor, 0L), -2L);
        CHECK.due("another number alone", x.result(0, 1L, 2L, 77L, 0L, 0L), -2L);
        CHECK.due("another number and what it lacks", x.result(0, 1L, 2L, 77L, xor, 0L), 0L);
    }

    // "(the KEYS that there are when it comes)".
    private static void keysThatAreThereWhenItComes() {
        TrustRows x = new TrustRows(1);
        x.writer(1);
        CHECK.due("without a key", x.result(0, 1L, 1L, 5L, 0L, 3L), -2L);
        CHECK.due("without a key, under 0", x.result(0, 0L, 0L, 0L, 0L, 0L), -2L);
        x.key(0, 5L, 0L, 10L);
        CHECK.due("with a key", x.result(0, 1L, 1L, 5L, 0L, 3L), 0L);
        CHECK.due("under a key to come", x.result(0, 2L, 1L, 6L, 0L, 12L), -2L);
        x.key(0, 6L, 10L, 20L);
        CHECK.due("what was unfit doesn't come by itself", x.stands(1), false);
        CHECK.due("under the second key", x.result(0, 2L, 1L, 6L, 0L, 12L), 1L);
        CHECK.due("the second key in the first's span", x.result(0, 3L, 1L, 6L, 0L, 3L), -2L);
    }

    // "One that doesn't FIT isn't taken up".
    private static void unfitOnesAreNotTakenUp() {
        TrustRows x = Setup.withWriters(1, 1, 1);
        CHECK.due("unfit", x.result(0, 1L, 1L, Setup.keyOf(0), 1L, 0L), -2L);
        CHECK.due("it isn't there", x.stands(0), false);
        CHECK.due("it doesn't count", x.counted(1L, 0, 0, 0L), 0L);
        CHECK.due("the same, fit", Setup.tell(x, 0, 1L, 1L, 0L), 0L);
        CHECK.due("unfit with another digest", x.result(1, 1L, 2L, Setup.keyOf(1), 1L, 0L), -2L);
        CHECK.due("it doesn't clash", x.clash(0, 0), TrustRows.NONE);
    }

    // "One that is like one there (WRITER, ACTION, DIGEST, not dropped)"; "- 3 if one like it is there".
    private static void likeOnes() {
        TrustRows x = Setup.withWriters(1, 1, 1, 0);
        CHECK.due("first", Setup.tell(x, 0, 1L, 9L, 5L), 0L);
        CHECK.due("like it", Setup.tell(x, 0, 1L, 9L, 5L), -3L);
        CHECK.due("like it at a later time", Setup.tell(x, 0, 1L, 9L, 6L), -3L);
        CHECK.due("like it at an earlier time", Setup.tell(x, 0, 1L, 9L, 4L), -3L);
        CHECK.due("another writer", Setup.tell(x, 1, 1L, 9L, 5L), 1L);
        CHECK.due("another action", Setup.tell(x, 0, 2L, 9L, 5L), 2L);
        CHECK.due("another digest", Setup.tell(x, 0, 1L, 8L, 5L), 3L);
        CHECK.due("an own one", Setup.tell(x, 2, 1L, 9L, 5L), 4L);
        CHECK.due("like the own one", Setup.tell(x, 2, 1L, 9L, 5L), -3L);
        CHECK.due("action and digest turned about", Setup.tell(x, 0, 9L, 1L, 5L), 5L);
        x.key(0, 77L, 0L, 10L);
        CHECK.due("like it under another key", x.result(0, 1L, 9L, 77L, 0L, 5L), -3L);
    }

    private static void likeOnesToTheBit() {
        TrustRows x = Setup.withWriters(1, 1);
        CHECK.due("first", Setup.tell(x, 0, 0L, 0L, 0L), 0L);
        int[] bits = {0, 31, 32, 63};
        for (int i = 0; i < bits.length; i++) {
            CHECK.due("action, bit " + bits[i], Setup.tell(x, 0, 1L << bits[i], 0L, 0L), 1L + 2L * i);
            CHECK.due("digest, bit " + bits[i], Setup.tell(x, 0, 0L, 1L << bits[i], 0L), 2L + 2L * i);
        }
    }

    private static void likeOnesAreNotTakenUp() {
        TrustRows x = Setup.withWriters(1, 1);
        Setup.tell(x, 0, 1L, 9L, 5L);
        Setup.tell(x, 0, 1L, 9L, 2L);
        CHECK.due("no second one", x.stands(1), false);
        CHECK.due("the time is the first's: before it", x.counted(1L, 0, 0, 4L), 0L);
        Setup.tell(x, 0, 1L, 9L, 8L);
        CHECK.due("the time is the first's: at it", x.counted(1L, 0, 0, 5L), 1L);
        CHECK.due("the next number", Setup.tell(x, 0, 2L, 9L, 5L), 1L);
    }

    // "RESULTS, at most 100, numbered from 0"; "- 4 if there are 100".
    private static void atMostAHundred() {
        TrustRows x = Setup.withWriters(1, 1, 1);
        for (int i = 0; i < 100; i++) {
            CHECK.due("result " + i, Setup.tell(x, i % 2, i, 1L, 0L), i);
        }
        CHECK.due("one more", Setup.tell(x, 0, 100L, 1L, 0L), -4L);
        CHECK.due("one more of the other", Setup.tell(x, 1, 100L, 1L, 0L), -4L);
    }

    private static void droppedOnesCountAmongTheHundred() {
        TrustRows x = Setup.withWriters(1, 1, 1);
        Setup.tellMany(x, 0, 99);
        CHECK.due("barring", x.bar(0), 99L);
        CHECK.due("the hundredth", Setup.tell(x, 1, 5L, 1L, 0L), 99L);
        CHECK.due("one more", Setup.tell(x, 1, 6L, 1L, 0L), -4L);
    }

    private static void oneBeyondAHundredIsNotTakenUp() {
        TrustRows x = Setup.withWriters(1, 1, 1);
        Setup.tellMany(x, 0, 100);
        CHECK.due("one more that would clash", Setup.tell(x, 1, 0L, 2L, 0L), -4L);
        CHECK.due("it doesn't clash", x.clash(0, 0), TrustRows.NONE);
        CHECK.due("it isn't there", x.stands(100), false);
        CHECK.due("one more of a new action", Setup.tell(x, 1, 500L, 2L, 0L), -4L);
        CHECK.due("it doesn't count", x.counted(500L, 0, 0, 0L), 0L);
        CHECK.due("it isn't dropped", x.bar(1), 0L);
        CHECK.due("the others are", x.bar(0), 100L);
    }

    // "- 1 ..; else - 2 ..; else - 3 ..": what is wrong in two ways is told by the first.
    private static void orderOfRefusals() {
        TrustRows x = Setup.withWriters(1, 1, 1);
        Setup.tell(x, 0, 1L, 1L, 0L);
        Setup.tell(x, 1, 1L, 1L, 0L);
        CHECK.due("no writer, unfit", x.result(2, 1L, 1L, 7L, 7L, 0L), -1L);
        CHECK.due("time, unfit", x.result(0, 1L, 1L, 7L, 7L, -1L), -1L);
        CHECK.due("time, known", Setup.tell(x, 0, 1L, 1L, -1L), -1L);
        CHECK.due("unfit, known", x.result(0, 1L, 1L, 7L, 7L, 0L), -2L);
        CHECK.due("known", Setup.tell(x, 0, 1L, 1L, 0L), -3L);
        x.bar(1);
        CHECK.due("barred, unfit", x.result(1, 1L, 1L, 7L, 7L, 0L), -1L);
        CHECK.due("barred, known", Setup.tell(x, 1, 1L, 1L, 0L), -1L);
    }

    // ".. else - 4 if there are 100".
    private static void orderOfRefusalsWhenFull() {
        TrustRows x = Setup.withWriters(1, 1, 1);
        Setup.tellMany(x, 0, 100);
        CHECK.due("full", Setup.tell(x, 0, 500L, 1L, 0L), -4L);
        CHECK.due("full, known", Setup.tell(x, 0, 5L, 1L, 0L), -3L);
        CHECK.due("full, unfit", x.result(0, 500L, 1L, Setup.keyOf(0), 1L, 0L), -2L);
        CHECK.due("full, known, unfit", x.result(0, 5L, 1L, Setup.keyOf(0), 1L, 0L), -2L);
        CHECK.due("full, time", Setup.tell(x, 0, 500L, 1L, -1L), -1L);
        CHECK.due("full, known, time", Setup.tell(x, 0, 5L, 1L, -1L), -1L);
        CHECK.due("full, no writer", Setup.tell(x, 2, 500L, 1L, 0L), -1L);
        x.bar(1);
        CHECK.due("full, barred", Setup.tell(x, 1, 500L, 1L, 0L), -1L);
    }

    // "Whether a RESULT is there and not dropped".
    private static void standing() {
        TrustRows x = Setup.withWriters(1, 1, 1);
        CHECK.due("none yet", x.stands(0), false);
        Setup.tell(x, 0, 1L, 1L, 0L);
        Setup.tell(x, 1, 1L, 1L, 0L);
        CHECK.due("stands(0)", x.stands(0), true);
        CHECK.due("stands(1)", x.stands(1), true);
        int[] wrong = {-1, 2, 99, 100, Integer.MIN_VALUE, Integer.MAX_VALUE};
        for (int result : wrong) {
            CHECK.due("stands(" + result + ")", x.stands(result), false);
        }
        x.bar(0);
        CHECK.due("a dropped one", x.stands(0), false);
        CHECK.due("the other one", x.stands(1), true);
    }

    private static void standingAtTheLast() {
        TrustRows x = Setup.withWriters(1, 1);
        Setup.tellMany(x, 0, 101);
        CHECK.due("stands(99)", x.stands(99), true);
        CHECK.due("stands(100)", x.stands(100), false);
        x.bar(0);
        CHECK.due("stands(99), dropped", x.stands(99), false);
        CHECK.due("stands(100), never there", x.stands(100), false);
    }
}
