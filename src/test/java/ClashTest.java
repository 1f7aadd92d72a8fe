/** Promise 14, and the terms on clashes. */
public final class ClashTest {
    private static final Check CHECK = new Check("ClashTest");

    public static void main(String[] args) {
        firstPairIsTold();
        byTheOneThatCameLater();
        thenByTheLesserNumber();
        lesserOneThatStands();
        oneWriterAgainstItself();
        ofOneAction();
        differentDigests();
        ownMachinesDoNotClash();
        levelsThatClash();
        droppedOnesDoNotClash();
        clashingForGood();
        timePlaysNoPart();
        inTheOrderInWhichItCame();
        noneSuch();
        anotherSide();
        fiftyClashes();
        CHECK.end();
    }

    private static void dueClash(TrustRows x, int i, int lesser, int later) {
        CHECK.due("clash(" + i + ", 0)", x.clash(i, 0), lesser);
        CHECK.due("clash(" + i + ", 1)", x.clash(i, 1), later);
    }

    private static void dueNoClash(TrustRows x, int i) {
        dueClash(x, i, TrustRows.NONE, TrustRows.NONE);
    }

    // "told with both numbers (the lesser one first ...)".
    private static void firstPairIsTold() {
        TrustRows x = Setup.withWriters(1, 1, 2, 1);
        Setup.tell(x, 0, 1L, 9L, 50L);
        dueNoClash(x, 0);
        Setup.tell(x, 1, 1L, 8L, 10L);
        dueClash(x, 0, 0, 1);
        dueNoClash(x, 1);
    }

    // "of several pairs the first that came up, by the one that came later".
    private static void byTheOneThatCameLater() {
        TrustRows x = Setup.withWriters(1, 1, 2, 1);
        Setup.tell(x, 0, 5L, 1L, 0L);
        Setup.tell(x, 0, 1L, 9L, 50L);
        Setup.tell(x, 1, 1L, 8L, 10L);
        Setup.tell(x, 2, 1L, 7L, 0L);
        dueClash(x, 0, 1, 2);
        dueNoClash(x, 1);
    }

    // "then by the lesser number".
    private static void thenByTheLesserNumber() {
        TrustRows x = Setup.withWriters(1, 1, 1, 1, 1);
        Setup.tell(x, 0, 2L, 8L, 0L);
        Setup.tell(x, 1, 1L, 9L, 30L);
        Setup.tell(x, 2, 1L, 9L, 10L);
        Setup.tell(x, 3, 1L, 8L, 20L);
        dueClash(x, 0, 1, 3);
    }

    private static void lesserOneThatStands() {
        TrustRows x = Setup.withWriters(1, 1, 1, 0, 2);
        Setup.tell(x, 0, 1L, 9L, 0L);
        Setup.tell(x, 2, 1L, 9L, 0L);
        Setup.tell(x, 1, 1L, 9L, 0L);
        x.bar(0);
        Setup.tell(x, 3, 1L, 8L, 0L);
        dueClash(x, 0, 2, 3);
    }

    private static void oneWriterAgainstItself() {
        TrustRows x = Setup.withWriters(1, 2);
        Setup.tell(x, 0, 1L, 9L, 0L);
        Setup.tell(x, 0, 1L, 8L, 0L);
        dueClash(x, 0, 0, 1);
        CHECK.due("take", x.take(1L, 0, 0, 0L), 0L);
    }

    // "of one ACTION": one bit of it is enough to be another.
    private static void ofOneAction() {
        int[] bits = {0, 31, 32, 63};
        for (int bit : bits) {
            TrustRows x = Setup.withWriters(1, 1, 1);
            Setup.tell(x, 0, 0L, 9L, 0L);
            Setup.tell(x, 1, 1L << bit, 8L, 0L);
            dueNoClash(x, 0);
            Setup.tell(x, 1, 0L, 8L, 0L);
            dueClash(x, 0, 0, 2);
            CHECK.due("the other action, bit " + bit, x.take(1L << bit, 0, 0, 0L), 1L);
        }
    }

    // "with different DIGESTS": one bit of them is enough.
    private static void differentDigests() {
        int[] bits = {0, 31, 32, 63};
        for (int bit : bits) {
            TrustRows x = Setup.withWriters(1, 1, 1, 1);
            Setup.tell(x, 0, 1L, 0L, 0L);
            Setup.tell(x, 1, 1L, 0L, 0L);
            dueNoClash(x, 0);
            Setup.tell(x, 2, 1L, 1L << bit, 0L);
            dueClash(x, 0, 0, 2);
        }
    }

    // "whose WRITERS aren't own machines (LEVEL 0)".
    private static void ownMachinesDoNotClash() {
        TrustRows x = Setup.withWriters(1, 0, 0, 1, 1);
        Setup.tell(x, 0, 1L, 9L, 0L);
        Setup.tell(x, 1, 1L, 8L, 0L);
        Setup.tell(x, 2, 1L, 7L, 0L);
        Setup.tell(x, 0, 1L, 6L, 0L);
        dueNoClash(x, 0);
        CHECK.due("take beside own ones", x.take(1L, 0, 0, 0L), 1L);
        Setup.tell(x, 3, 1L, 9L, 0L);
        dueClash(x, 0, 2, 4);
    }

    private static void levelsThatClash() {
        for (int former = 0; former < 3; former++) {
            for (int latter = 0; latter < 3; latter++) {
                TrustRows x = Setup.withWriters(1, former, latter);
                Setup.tell(x, 0, 1L, 9L, 0L);
                Setup.tell(x, 1, 1L, 8L, 0L);
                String call = "clash of levels " + former + " and " + latter;
                CHECK.due(call, x.clash(0, 0), former > 0 && latter > 0 ? 0L : TrustRows.NONE);
            }
        }
    }

    // "Two that aren't dropped".
    private static void droppedOnesDoNotClash() {
        TrustRows x = Setup.withWriters(1, 1, 1, 1);
        Setup.tell(x, 0, 1L, 9L, 0L);
        x.bar(0);
        Setup.tell(x, 1, 1L, 8L, 0L);
        dueNoClash(x, 0);
        CHECK.due("take of what stands", x.take(1L, 0, 0, 0L), 1L);
        Setup.tell(x, 2, 1L, 9L, 0L);
        dueClash(x, 0, 1, 2);
    }

    // "the ACTION is CLASHING, for good".
    private static void clashingForGood() {
        TrustRows x = Setup.withWriters(1, 1, 1, 1);
        Setup.tell(x, 0, 1L, 9L, 0L);
        Setup.tell(x, 1, 1L, 8L, 0L);
        x.bar(1);
        CHECK.due("take after the barring of one", x.take(1L, 0, 0, 0L), 0L);
        dueClash(x, 0, 0, 1);
        x.bar(0);
        CHECK.due("take after the barring of both", x.take(1L, 0, 0, 0L), 0L);
        Setup.tell(x, 2, 1L, 9L, 0L);
        CHECK.due("take with a new one", x.take(1L, 0, 0, 0L), 0L);
        Setup.tell(x, 2, 1L, 7L, 0L);
        dueClash(x, 0, 0, 1);
        dueNoClash(x, 1);
    }

    private static void timePlaysNoPart() {
        TrustRows x = Setup.withWriters(1, 1, 1);
        Setup.tell(x, 0, 1L, 9L, 0L);
        Setup.tell(x, 1, 1L, 8L, Setup.FOREVER - 1L);
        dueClash(x, 0, 0, 1);
        CHECK.due("take before the second", x.take(1L, 0, 0, 0L), 0L);
    }

    // "in the order in which that came up".
    private static void inTheOrderInWhichItCame() {
        TrustRows x = Setup.withWriters(1, 1, 1);
        Setup.tell(x, 0, 1L, 9L, 0L);
        Setup.tell(x, 0, 2L, 9L, 0L);
        Setup.tell(x, 1, 2L, 8L, 0L);
        Setup.tell(x, 1, 1L, 8L, 0L);
        dueClash(x, 0, 1, 2);
        dueClash(x, 1, 0, 3);
        CHECK.due("take of the first", x.take(1L, 0, 0, 0L), 0L);
        CHECK.due("take of the second", x.take(2L, 0, 0, 0L), 0L);
        CHECK.due("take of another", x.take(3L, 0, 0, 0L), -1L);
    }

    private static TrustRows withTwoClashes() {
        TrustRows x = Setup.withWriters(1, 1, 1);
        for (int action = 0; action < 2; action++) {
            Setup.tell(x, 0, action, 9L, 0L);
            Setup.tell(x, 1, action, 8L, 0L);
        }
        return x;
    }

    // "NONE if there is none such".
    private static void noneSuch() {
        TrustRows x = withTwoClashes();
        int[] wrong = {-1, 2, 49, 50, 51, Integer.MIN_VALUE, Integer.MAX_VALUE};
        for (int i : wrong) {
            dueNoClash(x, i);
        }
        dueClash(x, 0, 0, 1);
        dueClash(x, 1, 2, 3);
    }

    // "NONE ... for another side".
    private static void anotherSide() {
        TrustRows x = withTwoClashes();
        int[] wrong = {-1, 2, 3, Integer.MIN_VALUE, Integer.MAX_VALUE};
        for (int side : wrong) {
            CHECK.due("clash(0, " + side + ")", x.clash(0, side), TrustRows.NONE);
            CHECK.due("clash(1, " + side + ")", x.clash(1, side), TrustRows.NONE);
            CHECK.due("clash(2, " + side + ")", x.clash(2, side), TrustRows.NONE);
        }
    }

    // A hundred results can make fifty actions clash, and no more.
    private static void fiftyClashes() {
        TrustRows x = Setup.withWriters(1, 1, 1);
        for (int i = 0; i < 50; i++) {
            Setup.tell(x, 0, i, 9L, 0L);
            Setup.tell(x, 1, i, 8L, 0L);
        }
        for (int i = 0; i < 50; i++) {
            dueClash(x, i, 2 * i, 2 * i + 1);
            CHECK.due("take of " + i, x.take(i, 0, 0, 0L), 0L);
        }
        dueNoClash(x, 50);
    }
}
