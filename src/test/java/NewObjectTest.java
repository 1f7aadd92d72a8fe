/** Promise 1: a new object; and how long it serves. */
public final class NewObjectTest {
    private static final Check CHECK = new Check("NewObjectTest");

    public static void main(String[] args) {
        nothingIsThere();
        noRules();
        ownOnesDoNotCount();
        int[] tooSmall = {Integer.MIN_VALUE, -6, -5, -1, 0};
        for (int quorum : tooSmall) {
            quorumIs(quorum, 1);
        }
        for (int quorum = 1; quorum <= 5; quorum++) {
            quorumIs(quorum, quorum);
        }
        int[] tooLarge = {6, 7, 12, 256, Integer.MAX_VALUE};
        for (int quorum : tooLarge) {
            quorumIs(quorum, 5);
        }
        objectsAreApart();
        servesFor512Calls();
        servesFor512CallsWhenAllIsFull();
        CHECK.end();
    }

    // "no WRITERS".
    private static void nothingIsThere() {
        TrustRows x = new TrustRows(1);
        CHECK.due("taken", x.taken(), 0L);
        CHECK.due("stands", x.stands(0), false);
        CHECK.due("bar", x.bar(0), TrustRows.NONE);
        CHECK.due("key", x.key(0, 1L, 0L, 1L), TrustRows.NONE);
        CHECK.due("result", x.result(0, 0L, 0L, 0L, 0L, 0L), -1L);
        CHECK.due("take", x.take(0L, 0, 0, 0L), -1L);
        CHECK.due("counted", x.counted(0L, 0, 0, 0L), 0L);
        CHECK.due("clash", x.clash(0, 0), TrustRows.NONE);
        CHECK.due("audit", x.audit(0, 0), TrustRows.NONE);
        CHECK.due("writer", x.writer(1), 0L);
        CHECK.due("result of a writer without a key", x.result(0, 0L, 0L, 0L, 0L, 0L), -2L);
    }

    // "no RULES".
    private static void noRules() {
        TrustRows x = new TrustRows(1);
        for (int place = 0; place < 64; place++) {
            CHECK.due("ruleFor at " + place, x.ruleFor(place / 8, place % 8), TrustRows.NONE);
        }
        CHECK.due("the first rule", x.rule(0, 0, 0, 1), 0L);
    }

    // "OWN ones don't count".
    private static void ownOnesDoNotCount() {
        TrustRows x = Setup.withWriters(1, 0);
        Setup.tell(x, 0, 1L, 9L, 0L);
        CHECK.due("take of an own one alone", x.take(1L, 0, 0, 5L), -1L);
        x.own(true);
        CHECK.due("when they count", x.take(1L, 0, 0, 5L), 2L);
    }

    // "QUORUM 1 .. 5 (beyond that the nearest)".
    private static void quorumIs(int quorum, int nearest) {
        TrustRows x = Setup.withWriters(quorum, 1, 1, 1, 1, 1, 1, 1);
        CHECK.due("take, quorum " + quorum + ", none", x.take(1L, 0, 0, 0L), -1L);
        for (int writer = 0; writer < 7; writer++) {
            Setup.tell(x, writer, 1L, 9L, 0L);
            String call = "take, quorum " + quorum + ", " + (writer + 1) + " agree";
            CHECK.due(call, x.take(1L, 0, 0, 0L), writer + 1 >= nearest ? 1L : -1L);
        }
    }

    private static void objectsAreApart() {
        TrustRows x = Setup.withWriters(1, 1);
        TrustRows y = new TrustRows(1);
        Setup.tell(x, 0, 1L, 9L, 0L);
        x.take(1L, 0, 0, 0L);
        CHECK.due("taken of another object", y.taken(), 0L);
        CHECK.due("counted of another object", y.counted(1L, 0, 0, 0L), 0L);
        CHECK.due("writer of another object", y.writer(2), 0L);
    }

    // "An object is used for at most 512 calls": the last of them is answered as any other.
    private static void servesFor512Calls() {
        TrustRows x = Setup.withWriters(1, 1);
        Setup.tell(x, 0, 1L, 9L, 0L);
        for (int call = 4; call < 512; call++) {
            CHECK.due("call " + call, x.counted(1L, call % 8, 0, 0L), 1L);
        }
        CHECK.due("call 512", x.take(1L, 0, 0, 0L), 1L);
    }

    private static void servesFor512CallsWhenAllIsFull() {
        TrustRows x = new TrustRows(3);
        for (int i = 0; i < 12; i++) {
            x.writer(1);
        }
        for (int i = 0; i < 48; i++) {
            x.key(i % 12, Setup.keyOf(i % 12), i / 12, Setup.FOREVER);
        }
        for (int i = 0; i < 20; i++) {
            x.rule(i % 8, TrustRows.NONE, 1, 2);
        }
        for (int i = 0; i < 100; i++) {
            Setup.tell(x, i % 12, i / 12, 7L, 0L);
        }
        for (int i = 180; i < 509; i++) {
            x.take(i % 8, i % 8, 0, 0L);
        }
        CHECK.due("call 510, the last row of the audit", x.audit(199, 3), 12L);
        CHECK.due("call 511, the last result", x.stands(99), true);
        CHECK.due("call 512, the last action", x.take(8L, 3, 0, 0L), 1L);
    }
}
