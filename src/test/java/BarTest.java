/** Promise 7, and the terms on barring: a barred writer's results go, for good. */
public final class BarTest {
    private static final Check CHECK = new Check("BarTest");

    public static void main(String[] args) {
        noSuchWriter();
        barredAlready();
        howManyAreDropped();
        allAHundred();
        onlyItsOwnGo();
        levelsOfAllKinds();
        CHECK.end();
    }

    // "NONE if there is no such WRITER".
    private static void noSuchWriter() {
        TrustRows x = Setup.withWriters(1, 1, 1);
        int[] wrong = {-1, 2, 11, 12, Integer.MIN_VALUE, Integer.MAX_VALUE};
        for (int writer : wrong) {
            CHECK.due("bar(" + writer + ")", x.bar(writer), TrustRows.NONE);
        }
        CHECK.due("bar(0)", x.bar(0), 0L);
        CHECK.due("bar(1)", x.bar(1), 0L);
        TrustRows y = Setup.withWriters(1, 1, 1, 1, 1, 1, 1, 1, 1, 1, 1, 1, 1);
        CHECK.due("bar(12) of 12", y.bar(12), TrustRows.NONE);
        CHECK.due("bar(11) of 12", y.bar(11), 0L);
    }

    // "NONE if ... it is" BARRED.
    private static void barredAlready() {
        TrustRows x = Setup.withWriters(1, 1, 1);
        Setup.tell(x, 0, 1L, 1L, 0L);
        CHECK.due("bar(0)", x.bar(0), 1L);
        CHECK.due("bar(0) again", x.bar(0), TrustRows.NONE);
        CHECK.due("bar(1)", x.bar(1), 0L);
        CHECK.due("bar(0) once more", x.bar(0), TrustRows.NONE);
        CHECK.due("bar(1) again", x.bar(1), TrustRows.NONE);
    }

    // "how many RESULTS are dropped".
    private static void howManyAreDropped() {
        for (int many = 0; many < 4; many++) {
            TrustRows x = Setup.withWriters(1, 1);
            Setup.tellMany(x, 0, many);
            Setup.tell(x, 0, 50L, 1L, -1L);
            x.result(0, 50L, 1L, 7L, 7L, 0L);
            CHECK.due("bar with " + many, x.bar(0), many);
        }
    }

    private static void allAHundred() {
        TrustRows x = Setup.withWriters(1, 1, 1);
        Setup.tellMany(x, 0, 100);
        CHECK.due("bar(1)", x.bar(1), 0L);
        CHECK.due("bar(0)", x.bar(0), 100L);
        CHECK.due("the first", x.stands(0), false);
        CHECK.due("the last", x.stands(99), false);
    }

    // "BARRING a WRITER: its RESULTS are dropped".
    private static void onlyItsOwnGo() {
        TrustRows x = Setup.withWriters(1, 1, 2, 0);
        Setup.tell(x, 0, 1L, 1L, 0L);
        Setup.tell(x, 1, 1L, 1L, 0L);
        Setup.tell(x, 0, 2L, 1L, 0L);
        Setup.tell(x, 2, 1L, 1L, 0L);
        CHECK.due("bar(0)", x.bar(0), 2L);
        CHECK.due("stands(0)", x.stands(0), false);
        CHECK.due("stands(1)", x.stands(1), true);
        CHECK.due("stands(2)", x.stands(2), false);
        CHECK.due("stands(3)", x.stands(3), true);
        CHECK.due("the next number", Setup.tell(x, 1, 3L, 1L, 0L), 4L);
        CHECK.due("it stands", x.stands(4), true);
    }

    private static void levelsOfAllKinds() {
        TrustRows x = Setup.withWriters(1, 0, 1, 2);
        for (int writer = 0; writer < 3; writer++) {
            Setup.tell(x, writer, 1L, 1L, 0L);
            CHECK.due("bar of level " + writer, x.bar(writer), 1L);
            CHECK.due("its row goes", x.stands(writer), false);
        }
    }
}
