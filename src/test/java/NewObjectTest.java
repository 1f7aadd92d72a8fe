/** Promise 1: a new object. */
public final class NewObjectTest {
    private static final Check CHECK = new Check("NewObjectTest");

    public static void main(String[] args) {
        nothingIsThere();
        ownOnesDoNotCount();
        quorumIsTheNearest(Integer.MIN_VALUE, 1);
        quorumIsTheNearest(-1, 1);
        quorumIsTheNearest(0, 1);
        for (int quorum = 1; quorum <= 5; quorum++) {
            quorumIsTheNearest(quorum, quorum);
        }
        quorumIsTheNearest(6, 5);
        quorumIsTheNearest(Integer.MAX_VALUE, 5);
        objectsAreApart();
        CHECK.end();
    }

    private static void nothingIsThere() {
        TrustRows x = new TrustRows(1);
        CHECK.due("taken", x.taken(), 0L);
        CHECK.due("ruleFor", x.ruleFor(0, 0), TrustRows.NONE);
        CHECK.due("stands", x.stands(0), false);
        CHECK.due("bar", x.bar(0), TrustRows.NONE);
        CHECK.due("key", x.key(0, 1L, 0L, 1L), TrustRows.NONE);
        CHECK.due("result", x.result(0, 0L, 0L, 0L, 0L, 0L), -1L);
        CHECK.due("take", x.take(0L, 0, 0, 0L), -1L);
        CHECK.due("counted", x.counted(0L, 0, 0, 0L), 0L);
        CHECK.due("clash", x.clash(0, 0), TrustRows.NONE);
        CHECK.due("audit", x.audit(0, 0), TrustRows.NONE);
        CHECK.due("writer", x.writer(1), 0L);
    }

    private static void ownOnesDoNotCount() {
        TrustRows x = Setup.withWriters(1, 0);
        Setup.tell(x, 0, 1L, 9L, 0L);
        CHECK.due("take of an own one alone", x.take(1L, 0, 0, 5L), -1L);
    }

    private static void quorumIsTheNearest(int quorum, int nearest) {
        TrustRows x = Setup.withWriters(quorum, 1, 1, 1, 1, 1);
        for (int writer = 0; writer < 5; writer++) {
            Setup.tell(x, writer, 1L, 9L, 0L);
            String call = "take, quorum " + quorum + ", " + (writer + 1) + " agree";
            CHECK.due(call, x.take(1L, 0, 0, 0L), writer + 1 >= nearest ? 1L : -1L);
        }
    }

    private static void objectsAreApart() {
        TrustRows x = Setup.withWriters(1, 1);
        TrustRows y = new TrustRows(1);
        Setup.tell(x, 0, 1L, 9L, 0L);
        x.take(1L, 0, 0, 0L);
        CHECK.due("taken of another object", y.taken(), 0L);
        CHECK.due("counted of another object", y.counted(1L, 0, 0, 0L), 0L);
        CHECK.due("writer of another object", y.writer(2), 0L);
    }
}
