/** Promise 15: the audit. */
public final class AuditTest {
    private static final Check CHECK = new Check("AuditTest");

    public static void main(String[] args) {
        rowsTell();
        firstByNumber();
        ownRows();
        onlyWhatIsTaken();
        rowsStay();
        atMostTwoHundred();
        wrongQuestions();
        CHECK.end();
    }

    private static void dueRow(TrustRows x, int i, int... row) {
        for (int what = 0; what < row.length; what++) {
            CHECK.due("audit(" + i + ", " + what + ")", x.audit(i, what), row[what]);
        }
    }

    private static void rowsTell() {
        TrustRows x = Setup.withWriters(2, 1, 1, 2);
        Setup.tell(x, 0, 5L, 9L, 0L);
        Setup.tell(x, 0, 1L, 9L, 0L);
        Setup.tell(x, 1, 1L, 9L, 0L);
        Setup.tell(x, 2, 1L, 9L, 0L);
        x.take(1L, 6, 7, 0L);
        dueRow(x, 0, 6, 7, TrustRows.NONE, 3, 1);
        x.rule(0, 0, 1, 5);
        x.rule(4, TrustRows.NONE, 2, 1);
        x.take(1L, 4, 3, 0L);
        dueRow(x, 1, 4, 3, 1, 1, 3);
        dueRow(x, 0, 6, 7, TrustRows.NONE, 3, 1);
    }

    private static void firstByNumber() {
        TrustRows x = Setup.withWriters(2, 1, 1, 0);
        Setup.tell(x, 2, 1L, 9L, 0L);
        Setup.tell(x, 0, 1L, 9L, 20L);
        Setup.tell(x, 1, 1L, 9L, 10L);
        x.take(1L, 0, 0, 20L);
        dueRow(x, 0, 0, 0, TrustRows.NONE, 2, 1);
        x.rule(0, 0, 1, 1);
        x.take(1L, 0, 0, 10L);
        dueRow(x, 1, 0, 0, 0, 1, 2);
    }

    private static void ownRows() {
        TrustRows x = Setup.withWriters(1, 1, 0, 0);
        x.own(true);
        Setup.tell(x, 0, 1L, 9L, 0L);
        Setup.tell(x, 1, 1L, 9L, 2L);
        Setup.tell(x, 2, 1L, 9L, 1L);
        x.take(1L, 2, 3, 5L);
        dueRow(x, 0, 2, 3, TrustRows.NONE, 0, 1);
        x.rule(TrustRows.NONE, TrustRows.NONE, 1, 1);
        x.take(1L, 3, 2, 1L);
        dueRow(x, 1, 3, 2, 0, 0, 2);
    }

    private static void onlyWhatIsTaken() {
        TrustRows x = Setup.withWriters(1, 1, 1);
        Setup.tell(x, 0, 1L, 9L, 0L);
        Setup.tell(x, 0, 2L, 9L, 0L);
        Setup.tell(x, 1, 2L, 8L, 0L);
        CHECK.due("too few", x.take(3L, 0, 0, 0L), -1L);
        CHECK.due("a clash", x.take(2L, 0, 0, 0L), 0L);
        CHECK.due("refused", x.take(1L, 0, 8, 0L), -2L);
        x.counted(1L, 0, 0, 0L);
        CHECK.due("no row", x.audit(0, 0), TrustRows.NONE);
        x.take(1L, 1, 0, 0L);
        x.take(1L, 2, 0, 0L);
        CHECK.due("row 0", x.audit(0, 0), 1L);
        CHECK.due("row 1", x.audit(1, 0), 2L);
        CHECK.due("row 2", x.audit(2, 0), TrustRows.NONE);
    }

    private static void rowsStay() {
        TrustRows x = Setup.withWriters(1, 1);
        Setup.tell(x, 0, 1L, 9L, 0L);
        x.take(1L, 0, 0, 0L);
        x.rule(0, 0, 2, 5);
        x.bar(0);
        dueRow(x, 0, 0, 0, TrustRows.NONE, 1, 0);
    }

    private static void atMostTwoHundred() {
        TrustRows x = Setup.withWriters(1, 1);
        Setup.tell(x, 0, 1L, 9L, 0L);
        Setup.tell(x, 0, 2L, 8L, 0L);
        for (int i = 0; i < 200; i++) {
            x.take(1L, i % 8, i / 8 % 8, 0L);
        }
        dueRow(x, 199, 7, 0, TrustRows.NONE, 1, 0);
        CHECK.due("one more is taken", x.take(2L, 3, 3, 0L), 1L);
        CHECK.due("and told", x.taken(), 8L);
        CHECK.due("but has no row", x.audit(200, 0), TrustRows.NONE);
        dueRow(x, 199, 7, 0, TrustRows.NONE, 1, 0);
        dueRow(x, 0, 0, 0, TrustRows.NONE, 1, 0);
        for (int i = 0; i < 200; i++) {
            CHECK.due("target of row " + i, x.audit(i, 0), i % 8);
        }
    }

    private static void wrongQuestions() {
        TrustRows x = Setup.withWriters(1, 1);
        Setup.tell(x, 0, 1L, 9L, 0L);
        x.take(1L, 1, 2, 0L);
        x.take(1L, 3, 4, 0L);
        int[] wrong = {-1, 5, Integer.MIN_VALUE, Integer.MAX_VALUE};
        for (int value : wrong) {
            CHECK.due("audit(0, " + value + ")", x.audit(0, value), TrustRows.NONE);
            CHECK.due("audit(1, " + value + ")", x.audit(1, value), TrustRows.NONE);
            CHECK.due("audit(" + value + ", 0)", x.audit(value, 0), TrustRows.NONE);
        }
        CHECK.due("audit(2, 0)", x.audit(2, 0), TrustRows.NONE);
    }
}
