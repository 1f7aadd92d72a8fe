/** Promise 14: clashes. */
public final class ClashTest {
    private static final Check CHECK = new Check("ClashTest");

    public static void main(String[] args) {
        firstPairIsTold();
        lesserNumberIsTold();
        oneWriterAgainstItself();
        ownMachinesDoNotClash();
        droppedOnesDoNotClash();
        clashingForGood();
        inTheOrderInWhichItCame();
        wrongQuestions();
        fiftyClashes();
        CHECK.end();
    }

    private static void dueClash(TrustRows x, int i, int lesser, int later) {
        CHECK.due("clash(" + i + ", 0)", x.clash(i, 0), lesser);
        CHECK.due("clash(" + i + ", 1)", x.clash(i, 1), later);
    }

    private static void firstPairIsTold() {
        TrustRows x = Setup.withWriters(1, 1, 2, 1);
        Setup.tell(x, 0, 1L, 9L, 50L);
        dueClash(x, 0, TrustRows.NONE, TrustRows.NONE);
        Setup.tell(x, 1, 1L, 8L, 10L);
        dueClash(x, 0, 0, 1);
        Setup.tell(x, 2, 1L, 7L, 0L);
        dueClash(x, 0, 0, 1);
        dueClash(x, 1, TrustRows.NONE, TrustRows.NONE);
    }

    private static void lesserNumberIsTold() {
        TrustRows x = Setup.withWriters(1, 1, 1, 1, 1);
        Setup.tell(x, 0, 2L, 8L, 0L);
        Setup.tell(x, 1, 1L, 9L, 30L);
        Setup.tell(x, 2, 1L, 9L, 10L);
        Setup.tell(x, 3, 1L, 8L, 20L);
        dueClash(x, 0, 1, 3);
    }

    private static void oneWriterAgainstItself() {
        TrustRows x = Setup.withWriters(1, 2);
        Setup.tell(x, 0, 1L, 9L, 0L);
        Setup.tell(x, 0, 1L, 8L, 0L);
        dueClash(x, 0, 0, 1);
        CHECK.due("take", x.take(1L, 0, 0, 0L), 0L);
    }

    private static void ownMachinesDoNotClash() {
        TrustRows x = Setup.withWriters(1, 0, 0, 1, 1);
        Setup.tell(x, 0, 1L, 9L, 0L);
        Setup.tell(x, 1, 1L, 8L, 0L);
        Setup.tell(x, 2, 1L, 7L, 0L);
        Setup.tell(x, 0, 1L, 6L, 0L);
        dueClash(x, 0, TrustRows.NONE, TrustRows.NONE);
        CHECK.due("take beside own ones", x.take(1L, 0, 0, 0L), 1L);
        Setup.tell(x, 3, 1L, 9L, 0L);
        dueClash(x, 0, 2, 4);
    }

    private static void droppedOnesDoNotClash() {
        TrustRows x = Setup.withWriters(1, 1, 1, 1);
        Setup.tell(x, 0, 1L, 9L, 0L);
        x.bar(0);
        Setup.tell(x, 1, 1L, 8L, 0L);
        dueClash(x, 0, TrustRows.NONE, TrustRows.NONE);
        CHECK.due("take of what stands", x.take(1L, 0, 0, 0L), 1L);
        Setup.tell(x, 2, 1L, 9L, 0L);
        dueClash(x, 0, 1, 2);
    }

    private static void clashingForGood() {
        TrustRows x = Setup.withWriters(1, 1, 1, 1);
        Setup.tell(x, 0, 1L, 9L, 0L);
        Setup.tell(x, 1, 1L, 8L, 0L);
        x.bar(1);
        CHECK.due("take after the barring of one", x.take(1L, 0, 0, 0L), 0L);
        dueClash(x, 0, 0, 1);
        x.bar(0);
        CHECK.due("take after the barring of both", x.take(1L, 0, 0, 0L), 0L);
        Setup.tell(x, 2, 1L, 9L, 0L);
        Setup.tell(x, 2, 1L, 7L, 0L);
        dueClash(x, 0, 0, 1);
        dueClash(x, 1, TrustRows.NONE, TrustRows.NONE);
    }

    private static void inTheOrderInWhichItCame() {
        TrustRows x = Setup.withWriters(1, 1, 1);
        Setup.tell(x, 0, 1L, 9L, 0L);
        Setup.tell(x, 0, 2L, 9L, 0L);
        Setup.tell(x, 1, 2L, 8L, 0L);
        Setup.tell(x, 1, 1L, 8L, 0L);
        dueClash(x, 0, 1, 2);
        dueClash(x, 1, 0, 3);
        CHECK.due("take of the first", x.take(1L, 0, 0, 0L), 0L);
        CHECK.due("take of the second", x.take(2L, 0, 0, 0L), 0L);
        CHECK.due("take of another", x.take(3L, 0, 0, 0L), -1L);
    }

    private static void wrongQuestions() {
        TrustRows x = Setup.withWriters(1, 1, 1);
        Setup.tell(x, 0, 1L, 9L, 0L);
        Setup.tell(x, 1, 1L, 8L, 0L);
        int[] wrong = {-1, 2, Integer.MIN_VALUE, Integer.MAX_VALUE};
        for (int side : wrong) {
            CHECK.due("clash(0, " + side + ")", x.clash(0, side), TrustRows.NONE);
            CHECK.due("clash(" + side + ", 0)", x.clash(side, 0), TrustRows.NONE);
        }
    }

    private static void fiftyClashes() {
        TrustRows x = Setup.withWriters(1, 1, 1);
        for (int i = 0; i < 50; i++) {
            Setup.tell(x, 0, i, 9L, 0L);
            Setup.tell(x, 1, i, 8L, 0L);
        }
        for (int i = 0; i < 50; i++) {
            dueClash(x, i, 2 * i, 2 * i + 1);
            CHECK.due("take of " + i, x.take(i, 0, 0, 0L), 0L);
        }
        dueClash(x, 50, TrustRows.NONE, TrustRows.NONE);
    }
}
