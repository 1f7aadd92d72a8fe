/** Promises 2 and 3, and the terms on writers and their keys. */
public final class WriterTest {
    private static final Check CHECK = new Check("WriterTest");

    public static void main(String[] args) {
        atMostTwelve();
        barredOnesCountAmongTwelve();
        noSuchLevel();
        keyOfNoSuchWriter();
        keyOfTheLastWriter();
        keyOfABarredWriter();
        atMostFourKeys();
        fourKeysEach();
        fullKeysEndAtTheirWriter();
        fromBelowNought();
        untilNotAboveFrom();
        refusedKeysAreNotHeld();
        keysHave64Bits();
        keysMayBeAlike();
        CHECK.end();
    }

    // "WRITERS, at most 12, numbered from 0"; "NONE if there are 12".
    private static void atMostTwelve() {
        TrustRows x = new TrustRows(2);
        for (int i = 0; i < 12; i++) {
            CHECK.due("writer " + i, x.writer(i % 3), i);
        }
        for (int level = 0; level < 3; level++) {
            CHECK.due("a thirteenth writer of level " + level, x.writer(level), TrustRows.NONE);
        }
        CHECK.due("key of the twelfth", x.key(11, 5L, 0L, 10L), 0L);
        CHECK.due("key of a thirteenth", x.key(12, 5L, 0L, 10L), TrustRows.NONE);
        CHECK.due("bar the thirteenth", x.bar(12), TrustRows.NONE);
        CHECK.due("bar the twelfth", x.bar(11), 0L);
    }

    private static void barredOnesCountAmongTwelve() {
        TrustRows x = new TrustRows(2);
        for (int i = 0; i < 11; i++) {
            x.writer(1);
            x.bar(i);
        }
        CHECK.due("the twelfth after eleven barred ones", x.writer(1), 11L);
        CHECK.due("a thirteenth after eleven barred ones", x.writer(1), TrustRows.NONE);
    }

    // "NONE if there are 12, or no such LEVEL"; levels are 0, 1 and 2.
    private static void noSuchLevel() {
        TrustRows x = new TrustRows(2);
        int[] wrong = {-1, 3, -2, 4, 12, 256, Integer.MIN_VALUE, Integer.MAX_VALUE};
        for (int level : wrong) {
            CHECK.due("writer(" + level + ")", x.writer(level), TrustRows.NONE);
        }
        CHECK.due("no writer came of it", x.bar(0), TrustRows.NONE);
        for (int level = 0; level < 3; level++) {
            CHECK.due("writer(" + level + ")", x.writer(level), level);
        }
    }

    // "NONE if there is no such WRITER".
    private static void keyOfNoSuchWriter() {
        TrustRows x = new TrustRows(2);
        CHECK.due("key of 0 before it is there", x.key(0, 7L, 0L, 10L), TrustRows.NONE);
        x.writer(1);
        x.writer(1);
        int[] wrong = {-1, 2, 11, 12, Integer.MIN_VALUE, Integer.MAX_VALUE};
        for (int writer : wrong) {
            CHECK.due("key of " + writer, x.key(writer, 7L, 0L, 10L), TrustRows.NONE);
        }
        CHECK.due("key of 0", x.key(0, 7L, 0L, 10L), 0L);
        CHECK.due("key of 1", x.key(1, 7L, 0L, 10L), 0L);
    }

    private static void keyOfTheLastWriter() {
        TrustRows x = new TrustRows(1);
        for (int i = 0; i < 12; i++) {
            x.writer(1);
        }
        for (int place = 0; place < 4; place++) {
            CHECK.due("key of 11", x.key(11, 50L + place, 0L, 10L), place);
        }
        CHECK.due("a fifth key of 11", x.key(11, 60L, 0L, 10L), TrustRows.NONE);
        CHECK.due("result under the last key", x.result(11, 1L, 1L, 53L, 0L, 9L), 0L);
        CHECK.due("result under no key of a full row", x.result(11, 2L, 1L, 60L, 0L, 9L), -2L);
        CHECK.due("result under a neighbour's key", x.result(10, 1L, 1L, 50L, 0L, 9L), -2L);
    }

    // "NONE if ... it is BARRED".
    private static void keyOfABarredWriter() {
        TrustRows x = new TrustRows(2);
        x.writer(1);
        x.writer(1);
        CHECK.due("key before the barring", x.key(0, 7L, 0L, 10L), 0L);
        x.bar(0);
        CHECK.due("key after it", x.key(0, 7L, 0L, 10L), TrustRows.NONE);
        CHECK.due("key of the other", x.key(1, 7L, 0L, 10L), 0L);
    }

    // "KEYS, at most 4"; "NONE if ... has 4".
    private static void atMostFourKeys() {
        TrustRows x = new TrustRows(1);
        x.writer(1);
        for (int place = 0; place < 4; place++) {
            CHECK.due("key " + place, x.key(0, 50L + place, 0L, 10L), place);
        }
        CHECK.due("a fifth key", x.key(0, 54L, 0L, 10L), TrustRows.NONE);
        CHECK.due("a fifth key of another span", x.key(0, 54L, 90L, 100L), TrustRows.NONE);
        CHECK.due("result under the fifth", x.result(0, 9L, 1L, 54L, 0L, 5L), -2L);
        for (int place = 0; place < 4; place++) {
            CHECK.due("result under key " + place, x.result(0, place, 1L, 50L + place, 0L, 5L), place);
        }
    }

    private static void fourKeysEach() {
        TrustRows x = new TrustRows(2);
        for (int writer = 0; writer < 12; writer++) {
            x.writer(writer % 3);
        }
        for (int place = 0; place < 5; place++) {
            for (int writer = 0; writer < 12; writer++) {
                String call = "key " + place + " of " + writer;
                CHECK.due(call, x.key(writer, 100L * writer + place, 0L, 10L), place < 4 ? place : TrustRows.NONE);
            }
        }
        for (int writer = 0; writer < 12; writer++) {
            CHECK.due("first key of " + writer, x.result(writer, 1L, 1L, 100L * writer, 0L, 0L), 2L * writer);
            CHECK.due("last key of " + writer, x.result(writer, 2L, 1L, 100L * writer + 3L, 0L, 0L), 2L * writer + 1L);
        }
    }

    private static void fullKeysEndAtTheirWriter() {
        TrustRows x = new TrustRows(1);
        x.writer(1);
        x.writer(1);
        for (int place = 0; place < 4; place++) {
            x.key(0, 50L + place, 0L, 10L);
            x.key(1, 60L + place, 0L, 10L);
        }
        CHECK.due("0 under the first key of 1", x.result(0, 1L, 1L, 60L, 0L, 5L), -2L);
        CHECK.due("1 under the last key of 0", x.result(1, 1L, 1L, 53L, 0L, 5L), -2L);
        CHECK.due("0 under its last key", x.result(0, 1L, 1L, 53L, 0L, 5L), 0L);
        CHECK.due("1 under its first key", x.result(1, 1L, 1L, 60L, 0L, 5L), 1L);
    }

    // "NONE if ... from is below 0".
    private static void fromBelowNought() {
        TrustRows x = new TrustRows(2);
        x.writer(1);
        CHECK.due("from -1", x.key(0, 7L, -1L, 10L), TrustRows.NONE);
        CHECK.due("from -1 until 0", x.key(0, 7L, -1L, 0L), TrustRows.NONE);
        CHECK.due("from the least", x.key(0, 7L, Long.MIN_VALUE, Long.MAX_VALUE), TrustRows.NONE);
        CHECK.due("from -2 to the 32", x.key(0, 7L, -(1L << 32), 10L), TrustRows.NONE);
        CHECK.due("from 0", x.key(0, 7L, 0L, 10L), 0L);
        CHECK.due("from 1", x.key(0, 7L, 1L, 10L), 1L);
    }

    // "NONE if ... until isn't above it".
    private static void untilNotAboveFrom() {
        TrustRows x = new TrustRows(2);
        x.writer(1);
        long[] froms = {0L, 5L, 1L << 40, Long.MAX_VALUE - 1L, Long.MAX_VALUE};
        for (long from : froms) {
            CHECK.due("until like from " + from, x.key(0, 7L, from, from), TrustRows.NONE);
            CHECK.due("until below from " + from, x.key(0, 7L, from, from - 1L), TrustRows.NONE);
            CHECK.due("until the least, from " + from, x.key(0, 7L, from, Long.MIN_VALUE), TrustRows.NONE);
        }
        // The wrapped sum is the least of all numbers, and so below from.
        CHECK.due("until beyond the last", x.key(0, 7L, Long.MAX_VALUE, Long.MAX_VALUE + 1L), TrustRows.NONE);
        CHECK.due("one above 0", x.key(0, 7L, 0L, 1L), 0L);
        CHECK.due("one above 5", x.key(0, 7L, 5L, 6L), 1L);
        CHECK.due("one above the last but one", x.key(0, 7L, Long.MAX_VALUE - 1L, Long.MAX_VALUE), 2L);
        CHECK.due("the widest span", x.key(0, 7L, 0L, Long.MAX_VALUE), 3L);
    }

    private static void refusedKeysAreNotHeld() {
        TrustRows x = new TrustRows(1);
        x.writer(1);
        x.key(0, 7L, -1L, 10L);
        CHECK.due("under a key from -1", x.result(0, 1L, 1L, 7L, 0L, 5L), -2L);
        x.key(0, 7L, 5L, 5L);
        CHECK.due("under a key of no span", x.result(0, 1L, 1L, 7L, 0L, 5L), -2L);
        for (int place = 0; place < 4; place++) {
            CHECK.due("refused keys took no place", x.key(0, 7L, 0L, 6L), place);
        }
        CHECK.due("under a key that is held", x.result(0, 1L, 1L, 7L, 0L, 5L), 0L);
    }

    // "KEYS ...: 64 bits".
    private static void keysHave64Bits() {
        long[] keys = {0L, 1L, -1L, 1L << 31, 1L << 32, Long.MIN_VALUE, Long.MAX_VALUE};
        for (long key : keys) {
            TrustRows x = new TrustRows(1);
            x.writer(1);
            x.key(0, key, 0L, 10L);
            for (int bit = 0; bit < 64; bit++) {
                String call = "key " + key + ", bit " + bit + " off";
                CHECK.due(call, x.result(0, 0L, 0L, key ^ (1L << bit), 0L, 5L), -2L);
            }
            CHECK.due("key " + key, x.result(0, 0L, 0L, key, 0L, 5L), 0L);
        }
    }

    private static void keysMayBeAlike() {
        TrustRows x = new TrustRows(1);
        x.writer(1);
        x.writer(1);
        CHECK.due("a key", x.key(0, 7L, 0L, 10L), 0L);
        CHECK.due("the same once more", x.key(0, 7L, 0L, 10L), 1L);
        CHECK.due("the same of another", x.key(1, 7L, 0L, 10L), 0L);
    }
}
