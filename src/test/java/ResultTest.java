/** Promises 5, 6 and 7: results, whether they stand, and barring. */
public final class ResultTest {
    private static final Check CHECK = new Check("ResultTest");

    public static void main(String[] args) {
        refusedOnes();
        spanEdges();
        onlyOwnKeysFit();
        keysThatAreThereWhenItComes();
        sumByAnotherWay();
        likeOnes();
        atMostAHundred();
        orderOfRefusals();
        standing();
        barring();
        CHECK.end();
    }

    private static void refusedOnes() {
        TrustRows x = Setup.withWriters(1, 1, 1);
        CHECK.due("writer -1", x.result(-1, 1L, 1L, Setup.keyOf(0), 0L, 0L), -1L);
        CHECK.due("writer 2", x.result(2, 1L, 1L, Setup.keyOf(0), 0L, 0L), -1L);
        CHECK.due("writer 12", x.result(12, 1L, 1L, Setup.keyOf(0), 0L, 0L), -1L);
        CHECK.due("writer least", x.result(Integer.MIN_VALUE, 1L, 1L, 0L, 0L, 0L), -1L);
        CHECK.due("writer most", x.result(Integer.MAX_VALUE, 1L, 1L, 0L, 0L, 0L), -1L);
        CHECK.due("time -1", Setup.tell(x, 0, 1L, 1L, -1L), -1L);
        CHECK.due("time least", Setup.tell(x, 0, 1L, 1L, Long.MIN_VALUE), -1L);
        x.bar(1);
        CHECK.due("a barred writer", Setup.tell(x, 1, 1L, 1L, 0L), -1L);
        CHECK.due("time 0", Setup.tell(x, 0, 1L, 1L, 0L), 0L);
    }

    private static void spanEdges() {
        TrustRows x = new TrustRows(1);
        x.writer(1);
        x.key(0, 5L, 10L, 20L);
        CHECK.due("before from", x.result(0, 1L, 1L, 5L, 0L, 9L), -2L);
        CHECK.due("at from", x.result(0, 1L, 1L, 5L, 0L, 10L), 0L);
        CHECK.due("before until", x.result(0, 2L, 1L, 5L, 0L, 19L), 1L);
        CHECK.due("at until", x.result(0, 3L, 1L, 5L, 0L, 20L), -2L);
        CHECK.due("long after", x.result(0, 3L, 1L, 5L, 0L, Long.MAX_VALUE), -2L);
    }

    private static void onlyOwnKeysFit() {
        TrustRows x = Setup.withWriters(1, 1, 1);
        CHECK.due("another's key", x.result(0, 1L, 1L, Setup.keyOf(1), 0L, 0L), -2L);
        CHECK.due("a sum that is off", x.result(0, 1L, 1L, Setup.keyOf(0), 1L, 0L), -2L);
        CHECK.due("the top bit off", x.result(0, 1L, 1L, Setup.keyOf(0), Long.MIN_VALUE, 0L), -2L);
        CHECK.due("no result came", x.stands(0), false);
    }

    private static void keysThatAreThereWhenItComes() {
        TrustRows x = new TrustRows(1);
        x.writer(1);
        CHECK.due("without a key", x.result(0, 1L, 1L, 5L, 0L, 3L), -2L);
        x.key(0, 5L, 0L, 10L);
        CHECK.due("with a key", x.result(0, 1L, 1L, 5L, 0L, 3L), 0L);
        CHECK.due("under a key to come", x.result(0, 2L, 1L, 6L, 0L, 12L), -2L);
        x.key(0, 6L, 10L, 20L);
        CHECK.due("under the second key", x.result(0, 2L, 1L, 6L, 0L, 12L), 1L);
        CHECK.due("the second key in the first's span", x.result(0, 3L, 1L, 6L, 0L, 3L), -2L);
    }

    private static void sumByAnotherWay() {
        TrustRows x = Setup.withWriters(1, 1);
        long xor = x.sum(77L, 1L, 2L) ^ x.sum(Setup.keyOf(0), 1L, 2L);
        CHECK.due("another number and what it lacks", x.result(0, 1L, 2L, 77L, xor, 0L), 0L);
        CHECK.due("the same for another digest", x.result(0, 1L, 3L, 77L, xor, 0L), -2L);
    }

    private static void likeOnes() {
        TrustRows x = Setup.withWriters(1, 1, 1, 0);
        CHECK.due("first", Setup.tell(x, 0, 1L, 9L, 5L), 0L);
        CHECK.due("like it at another time", Setup.tell(x, 0, 1L, 9L, 6L), -3L);
        CHECK.due("another writer", Setup.tell(x, 1, 1L, 9L, 5L), 1L);
        CHECK.due("another action", Setup.tell(x, 0, 2L, 9L, 5L), 2L);
        CHECK.due("another digest", Setup.tell(x, 0, 1L, 8L, 5L), 3L);
        CHECK.due("an own one", Setup.tell(x, 2, 1L, 9L, 5L), 4L);
        CHECK.due("like the own one", Setup.tell(x, 2, 1L, 9L, 5L), -3L);
        CHECK.due("a refused one keeps the first's time", x.counted(2L, 0, 0, 4L), 0L);
    }

    private static void atMostAHundred() {
        TrustRows x = Setup.withWriters(1, 1, 1);
        for (int i = 0; i < 100; i++) {
            CHECK.due("result " + i, Setup.tell(x, i % 2, i, 1L, 0L), i);
        }
        CHECK.due("one more", Setup.tell(x, 0, 100L, 1L, 0L), -4L);
        CHECK.due("one more that would clash", Setup.tell(x, 0, 0L, 2L, 0L), -4L);
        CHECK.due("it doesn't clash", x.clash(0, 0), TrustRows.NONE);
        CHECK.due("the last stands", x.stands(99), true);
        CHECK.due("none behind it", x.stands(100), false);
        CHECK.due("barring", x.bar(1), 50L);
        CHECK.due("dropped ones keep their numbers", Setup.tell(x, 0, 100L, 1L, 0L), -4L);
    }

    private static void orderOfRefusals() {
        TrustRows x = Setup.withWriters(1, 1);
        for (int i = 0; i < 100; i++) {
            Setup.tell(x, 0, i, 1L, 0L);
        }
        CHECK.due("full, known", Setup.tell(x, 0, 5L, 1L, 0L), -3L);
        CHECK.due("full, known, unfit", x.result(0, 5L, 1L, Setup.keyOf(0), 1L, 0L), -2L);
        CHECK.due("full, unfit", x.result(0, 500L, 1L, Setup.keyOf(0), 1L, 0L), -2L);
        CHECK.due("full, known, time", Setup.tell(x, 0, 5L, 1L, -1L), -1L);
        CHECK.due("full, no writer", Setup.tell(x, 1, 5L, 1L, 0L), -1L);
    }

    private static void standing() {
        TrustRows x = Setup.withWriters(1, 1);
        CHECK.due("none yet", x.stands(0), false);
        Setup.tell(x, 0, 1L, 1L, 0L);
        CHECK.due("stands(0)", x.stands(0), true);
        CHECK.due("stands(1)", x.stands(1), false);
        CHECK.due("stands(-1)", x.stands(-1), false);
        CHECK.due("stands(least)", x.stands(Integer.MIN_VALUE), false);
        CHECK.due("stands(most)", x.stands(Integer.MAX_VALUE), false);
    }

    private static void barring() {
        TrustRows x = Setup.withWriters(1, 1, 2, 0);
        Setup.tell(x, 0, 1L, 1L, 0L);
        Setup.tell(x, 1, 1L, 1L, 0L);
        Setup.tell(x, 0, 2L, 1L, 0L);
        Setup.tell(x, 2, 1L, 1L, 0L);
        CHECK.due("bar(-1)", x.bar(-1), TrustRows.NONE);
        CHECK.due("bar(3)", x.bar(3), TrustRows.NONE);
        CHECK.due("bar(least)", x.bar(Integer.MIN_VALUE), TrustRows.NONE);
        CHECK.due("bar(most)", x.bar(Integer.MAX_VALUE), TrustRows.NONE);
        CHECK.due("bar(0)", x.bar(0), 2L);
        CHECK.due("bar(0) again", x.bar(0), TrustRows.NONE);
        CHECK.due("stands(0)", x.stands(0), false);
        CHECK.due("stands(1)", x.stands(1), true);
        CHECK.due("stands(2)", x.stands(2), false);
        CHECK.due("stands(3)", x.stands(3), true);
        CHECK.due("the next number", Setup.tell(x, 1, 3L, 1L, 0L), 4L);
        CHECK.due("bar of an own machine", x.bar(2), 1L);
        CHECK.due("its row goes", x.stands(3), false);
        TrustRows y = Setup.withWriters(1, 1);
        CHECK.due("bar without results", y.bar(0), 0L);
    }
}
