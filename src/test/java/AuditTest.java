/** Promise 15, and the terms on the audit. */
public final class AuditTest {
    private static final Check CHECK = new Check("AuditTest");
    private static final int ANY = TrustRows.NONE;

    public static void main(String[] args) {
        targetAndBranch();
        ruleNumber();
        howManyCounted();
        firstByNumber();
        firstThatCounts();
        ownRows();
        onlyWhatIsTaken();
        rowsStay();
        atMostTwoHundred();
        atMostTwoHundredOwnOnes();
        noneSuch();
        anotherWhat();
        CHECK.end();
    }

    private static void dueRow(TrustRows x, int i, int... row) {
        for (int what = 0; what < row.length; what++) {
            CHECK.due("audit(" + i + ", " + what + ")", x.audit(i, what), row[what]);
        }
    }

    // "0 the TARGET, 1 the BRANCH".
    private static void targetAndBranch() {
        TrustRows x = Setup.withWriters(1, 1);
        Setup.tell(x, 0, 1L, 9L, 0L);
        for (int i = 0; i < 64; i++) {
            x.take(1L, i / 8, i % 8, 0L);
            CHECK.due("target of row " + i, x.audit(i, 0), i / 8);
            CHECK.due("branch of row " + i, x.audit(i, 1), i % 8);
        }
    }

    // "2 the RULE's number (NONE)".
    private static void ruleNumber() {
        TrustRows x = Setup.withWriters(1, 1);
        Setup.tell(x, 0, 1L, 9L, 0L);
        x.take(1L, 0, 0, 0L);
        CHECK.due("without a rule", x.audit(0, 2), TrustRows.NONE);
        for (int i = 0; i < 20; i++) {
            x.rule(ANY, 0, 1, 1);
            x.take(1L, 0, 0, 0L);
            CHECK.due("rule " + i, x.audit(1 + i, 2), i);
        }
        x.take(1L, 0, 1, 0L);
        CHECK.due("where no rule fits", x.audit(21, 2), TrustRows.NONE);
    }

    // "3 how many WRITERS counted".
    private static void howManyCounted() {
        TrustRows x = Setup.withWriters(1, 1, 2, 1, 2, 1, 2, 1, 2, 1, 2, 1, 2);
        x.rule(1, ANY, 2, 1);
        for (int writer = 0; writer < 12; writer++) {
            Setup.tell(x, writer, 1L, 9L, 0L);
            x.take(1L, 0, 0, 0L);
            dueRow(x, writer, 0, 0, TrustRows.NONE, writer + 1, 0);
        }
        x.take(1L, 1, 0, 0L);
        dueRow(x, 12, 1, 0, 0, 6, 1);
    }

    // "4 the number of the first RESULT by which it was taken".
    private static void firstByNumber() {
        TrustRows x = Setup.withWriters(2, 1, 1, 0);
        Setup.tell(x, 2, 1L, 9L, 0L);
        Setup.tell(x, 0, 1L, 9L, 20L);
        Setup.tell(x, 1, 1L, 9L, 10L);
        x.take(1L, 0, 0, 20L);
        dueRow(x, 0, 0, 0, TrustRows.NONE, 2, 1);
        x.rule(0, 0, 1, 1);
        x.take(1L, 0, 0, 10L);
        dueRow(x, 1, 0, 0, 0, 1, 2);
    }

    private static void firstThatCounts() {
        TrustRows x = Setup.withWriters(1, 1, 1, 2);
        Setup.tell(x, 0, 5L, 9L, 0L);
        Setup.tell(x, 0, 1L, 9L, 0L);
        Setup.tell(x, 1, 1L, 9L, 0L);
        Setup.tell(x, 2, 1L, 9L, 0L);
        x.take(1L, 6, 7, 0L);
        dueRow(x, 0, 6, 7, TrustRows.NONE, 3, 1);
        x.rule(0, 0, 1, 5);
        x.rule(4, ANY, 2, 1);
        x.take(1L, 4, 3, 0L);
        dueRow(x, 1, 4, 3, 1, 1, 3);
        x.bar(0);
        x.take(1L, 6, 7, 0L);
        dueRow(x, 2, 6, 7, TrustRows.NONE, 2, 2);
        Setup.tellMany(x, 1, 96);
        x.take(94L, 5, 5, 0L);
        dueRow(x, 3, 5, 5, TrustRows.NONE, 1, 98);
        x.take(95L, 5, 5, 0L);
        dueRow(x, 4, 5, 5, TrustRows.NONE, 1, 99);
    }

    // "0 for an OWN one".
    private static void ownRows() {
        TrustRows x = Setup.withWriters(1, 1, 0, 0);
        x.own(true);
        Setup.tell(x, 0, 1L, 9L, 0L);
        Setup.tell(x, 1, 1L, 9L, 2L);
        Setup.tell(x, 2, 1L, 9L, 1L);
        x.take(1L, 2, 3, 5L);
        dueRow(x, 0, 2, 3, TrustRows.NONE, 0, 1);
        x.rule(ANY, ANY, 1, 1);
        x.take(1L, 3, 2, 1L);
        dueRow(x, 1, 3, 2, 0, 0, 2);
        x.take(1L, 3, 2, 0L);
        dueRow(x, 2, 3, 2, 0, 1, 0);
        x.rule(ANY, ANY, 0, 1);
        x.take(1L, 3, 2, 5L);
        dueRow(x, 3, 3, 2, 1, 0, 1);
    }

    // "What is taken is told in the AUDIT": nothing else is.
    private static void onlyWhatIsTaken() {
        TrustRows x = Setup.withWriters(1, 1, 1);
        Setup.tell(x, 0, 1L, 9L, 0L);
        Setup.tell(x, 0, 2L, 9L, 0L);
        Setup.tell(x, 1, 2L, 8L, 0L);
        CHECK.due("too few", x.take(3L, 0, 0, 0L), -1L);
        CHECK.due("a clash", x.take(2L, 0, 0, 0L), 0L);
        CHECK.due("refused", x.take(1L, 0, 8, 0L), -2L);
        x.counted(1L, 0, 0, 0L);
        CHECK.due("no row", x.audit(0, 0), TrustRows.NONE);
        x.take(1L, 1, 0, 0L);
        x.take(3L, 4, 0, 0L);
        x.take(1L, 2, 0, 0L);
        CHECK.due("row 0", x.audit(0, 0), 1L);
        CHECK.due("row 1", x.audit(1, 0), 2L);
        CHECK.due("row 2", x.audit(2, 0), TrustRows.NONE);
    }

    private static void rowsStay() {
        TrustRows x = Setup.withWriters(1, 1);
        Setup.tell(x, 0, 1L, 9L, 0L);
        x.take(1L, 0, 0, 0L);
        x.rule(0, 0, 2, 5);
        x.bar(0);
        dueRow(x, 0, 0, 0, TrustRows.NONE, 1, 0);
    }

    // "(at most 200 rows)".
    private static void atMostTwoHundred() {
        TrustRows x = Setup.withWriters(1, 1);
        Setup.tell(x, 0, 1L, 9L, 0L);
        Setup.tell(x, 0, 2L, 8L, 0L);
        for (int i = 0; i < 199; i++) {
            x.take(1L, i % 8, i / 8 % 8, 0L);
        }
        dueRow(x, 199, TrustRows.NONE, TrustRows.NONE, TrustRows.NONE, TrustRows.NONE, TrustRows.NONE);
        CHECK.due("the two hundredth", x.take(1L, 5, 6, 0L), 1L);
        dueRow(x, 199, 5, 6, TrustRows.NONE, 1, 0);
        CHECK.due("one more is taken", x.take(2L, 3, 3, 0L), 1L);
        CHECK.due("and told", x.taken(), 8L);
        dueRow(x, 200, TrustRows.NONE, TrustRows.NONE, TrustRows.NONE, TrustRows.NONE, TrustRows.NONE);
        dueRow(x, 199, 5, 6, TrustRows.NONE, 1, 0);
        for (int i = 0; i < 199; i++) {
            CHECK.due("target of row " + i, x.audit(i, 0), i % 8);
        }
        CHECK.due("too few when it is full", x.take(3L, 0, 0, 0L), -1L);
        CHECK.due("outside when it is full", x.take(1L, 8, 0, 0L), -2L);
    }

    private static void atMostTwoHundredOwnOnes() {
        TrustRows x = Setup.withWriters(1, 0, 0);
        x.own(true);
        Setup.tell(x, 0, 1L, 9L, 0L);
        Setup.tell(x, 1, 2L, 8L, 0L);
        for (int i = 0; i < 200; i++) {
            x.take(1L, i % 8, 0, 0L);
        }
        dueRow(x, 199, 7, 0, TrustRows.NONE, 0, 0);
        CHECK.due("one more is taken", x.take(2L, 3, 3, 0L), 2L);
        CHECK.due("and told", x.taken(), 8L);
        CHECK.due("but has no row", x.audit(200, 0), TrustRows.NONE);
        dueRow(x, 199, 7, 0, TrustRows.NONE, 0, 0);
        dueRow(x, 0, 0, 0, TrustRows.NONE, 0, 0);
    }

    private static TrustRows withTwoRows() {
        TrustRows x = Setup.withWriters(1, 1);
        x.rule(ANY, ANY, 1, 1);
        Setup.tell(x, 0, 1L, 9L, 0L);
        x.take(1L, 1, 2, 0L);
        x.take(1L, 3, 4, 0L);
        return x;
    }

    // "NONE if there is none such".
    private static void noneSuch() {
        TrustRows x = withTwoRows();
        int[] wrong = {-1, 2, 199, 200, 201, Integer.MIN_VALUE, Integer.MAX_VALUE};
        for (int i : wrong) {
            dueRow(x, i, TrustRows.NONE, TrustRows.NONE, TrustRows.NONE, TrustRows.NONE, TrustRows.NONE);
        }
        dueRow(x, 0, 1, 2, 0, 1, 0);
        dueRow(x, 1, 3, 4, 0, 1, 0);
    }

    // "NONE ... for another what".
    private static void anotherWhat() {
        TrustRows x = withTwoRows();
        int[] wrong = {-1, 5, 6, -5, Integer.MIN_VALUE, Integer.MAX_VALUE};
        for (int what : wrong) {
            for (int i = -1; i < 3; i++) {
                CHECK.due("audit(" + i + ", " + what + ")", x.audit(i, what), TrustRows.NONE);
            }
        }
        CHECK.due("audit(1, 0)", x.audit(1, 0), 3L);
        CHECK.due("audit(1, 4)", x.audit(1, 4), 0L);
    }
}
