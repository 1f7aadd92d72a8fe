/** Promises 2 and 3: writers and their keys. */
public final class WriterTest {
    private static final Check CHECK = new Check("WriterTest");

    public static void main(String[] args) {
        writersAreNumbered();
        noSuchLevel();
        keysHavePlaces();
        keysOfNoWriter();
        keysWithWrongSpans();
        keysOfTheLastWriter();
        fullKeysEndAtTheirWriter();
        barredWriterGetsNoKey();
        CHECK.end();
    }

    private static void writersAreNumbered() {
        TrustRows x = new TrustRows(2);
        for (int i = 0; i < 12; i++) {
            CHECK.due("writer " + i, x.writer(i % 3), i);
        }
        CHECK.due("a thirteenth writer", x.writer(1), TrustRows.NONE);
        x.bar(3);
        CHECK.due("a thirteenth writer after a barring", x.writer(1), TrustRows.NONE);
    }

    private static void noSuchLevel() {
        TrustRows x = new TrustRows(2);
        CHECK.due("writer(-1)", x.writer(-1), TrustRows.NONE);
        CHECK.due("writer(3)", x.writer(3), TrustRows.NONE);
        CHECK.due("writer(least)", x.writer(Integer.MIN_VALUE), TrustRows.NONE);
        CHECK.due("writer(most)", x.writer(Integer.MAX_VALUE), TrustRows.NONE);
        CHECK.due("writer(2)", x.writer(2), 0L);
    }

    private static void keysHavePlaces() {
        TrustRows x = new TrustRows(2);
        x.writer(1);
        x.writer(2);
        for (int place = 0; place < 4; place++) {
            CHECK.due("key of 0", x.key(0, 7L, 0L, 10L), place);
            CHECK.due("key of 1", x.key(1, -place, place, place + 1L), place);
        }
        CHECK.due("a fifth key", x.key(0, 8L, 0L, 10L), TrustRows.NONE);
        CHECK.due("a fifth key of 1", x.key(1, 8L, 0L, 10L), TrustRows.NONE);
        CHECK.due("result under the fifth key", x.result(0, 1L, 1L, 8L, 0L, 5L), -2L);
    }

    private static void keysOfNoWriter() {
        TrustRows x = new TrustRows(2);
        x.writer(1);
        CHECK.due("key of -1", x.key(-1, 7L, 0L, 10L), TrustRows.NONE);
        CHECK.due("key of 1", x.key(1, 7L, 0L, 10L), TrustRows.NONE);
        CHECK.due("key of 12", x.key(12, 7L, 0L, 10L), TrustRows.NONE);
        CHECK.due("key of least", x.key(Integer.MIN_VALUE, 7L, 0L, 10L), TrustRows.NONE);
        CHECK.due("key of most", x.key(Integer.MAX_VALUE, 7L, 0L, 10L), TrustRows.NONE);
    }

    private static void keysWithWrongSpans() {
        TrustRows x = new TrustRows(2);
        x.writer(1);
        CHECK.due("from below 0", x.key(0, 7L, -1L, 10L), TrustRows.NONE);
        CHECK.due("from the least", x.key(0, 7L, Long.MIN_VALUE, Long.MAX_VALUE), TrustRows.NONE);
        CHECK.due("until like from", x.key(0, 7L, 5L, 5L), TrustRows.NONE);
        CHECK.due("until below from", x.key(0, 7L, 5L, 4L), TrustRows.NONE);
        CHECK.due("until the least", x.key(0, 7L, 5L, Long.MIN_VALUE), TrustRows.NONE);
        CHECK.due("refused keys took no place", x.key(0, 7L, 0L, 1L), 0L);
        CHECK.due("the widest span", x.key(0, 7L, 0L, Long.MAX_VALUE), 1L);
        CHECK.due("the last span", x.key(0, 7L, Long.MAX_VALUE - 1L, Long.MAX_VALUE), 2L);
    }

    private static void keysOfTheLastWriter() {
        TrustRows x = new TrustRows(1);
        for (int i = 0; i < 12; i++) {
            x.writer(1);
        }
        for (int place = 0; place < 4; place++) {
            CHECK.due("key of 11", x.key(11, 50L + place, 0L, 10L), place);
        }
        CHECK.due("a fifth key of 11", x.key(11, 60L, 0L, 10L), TrustRows.NONE);
        CHECK.due("result under the last key", x.result(11, 1L, 1L, 53L, 0L, 9L), 0L);
        CHECK.due("result under no key of a full row", x.result(11, 2L, 1L, 60L, 0L, 9L), -2L);
        CHECK.due("result under a neighbour's key", x.result(10, 1L, 1L, 50L, 0L, 9L), -2L);
    }

    private static void fullKeysEndAtTheirWriter() {
        TrustRows x = new TrustRows(1);
        x.writer(1);
        x.writer(1);
        for (int place = 0; place < 4; place++) {
            x.key(0, 50L + place, 0L, 10L);
            x.key(1, 60L + place, 0L, 10L);
        }
        CHECK.due("0 under the first key of 1", x.result(0, 1L, 1L, 60L, 0L, 5L), -2L);
        CHECK.due("1 under the last key of 0", x.result(1, 1L, 1L, 53L, 0L, 5L), -2L);
        CHECK.due("0 under its last key", x.result(0, 1L, 1L, 53L, 0L, 5L), 0L);
        CHECK.due("1 under its first key", x.result(1, 1L, 1L, 60L, 0L, 5L), 1L);
    }

    private static void barredWriterGetsNoKey() {
        TrustRows x = new TrustRows(2);
        x.writer(1);
        x.writer(1);
        x.bar(0);
        CHECK.due("key of a barred one", x.key(0, 7L, 0L, 10L), TrustRows.NONE);
        CHECK.due("key of the other", x.key(1, 7L, 0L, 10L), 0L);
    }
}
