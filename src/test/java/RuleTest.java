/** Promises 8 and 9: rules, and which one is for a target and a branch. */
public final class RuleTest {
    private static final Check CHECK = new Check("RuleTest");

    public static void main(String[] args) {
        wrongRules();
        edgesOfRules();
        atMostTwenty();
        moreNamesGoAhead();
        targetGoesAheadOfBranch();
        latestGoesAhead();
        wrongQuestions();
        CHECK.end();
    }

    private static void wrongRules() {
        TrustRows x = new TrustRows(1);
        int[][] wrong = {
            {-2, 0, 0, 1}, {8, 0, 0, 1}, {0, -2, 0, 1}, {0, 8, 0, 1},
            {0, 0, -1, 1}, {0, 0, 3, 1}, {0, 0, 0, 0}, {0, 0, 0, 6}, {0, 0, 0, -1},
            {Integer.MIN_VALUE, 0, 0, 1}, {0, Integer.MAX_VALUE, 0, 1},
            {0, 0, Integer.MAX_VALUE, 1}, {0, 0, 0, Integer.MIN_VALUE}};
        for (int[] row : wrong) {
            String call = "rule(" + row[0] + ", " + row[1] + ", " + row[2] + ", " + row[3] + ")";
            CHECK.due(call, x.rule(row[0], row[1], row[2], row[3]), TrustRows.NONE);
        }
        CHECK.due("no rule came of it", x.ruleFor(0, 0), TrustRows.NONE);
        CHECK.due("the first number", x.rule(0, 0, 0, 1), 0L);
    }

    private static void edgesOfRules() {
        TrustRows x = new TrustRows(1);
        CHECK.due("rule(7, 7, 2, 5)", x.rule(7, 7, 2, 5), 0L);
        CHECK.due("rule(0, 0, 0, 1)", x.rule(0, 0, 0, 1), 1L);
        CHECK.due("rule(any, any, 2, 5)", x.rule(TrustRows.NONE, TrustRows.NONE, 2, 5), 2L);
        CHECK.due("ruleFor(7, 7)", x.ruleFor(7, 7), 0L);
        CHECK.due("ruleFor(0, 0)", x.ruleFor(0, 0), 1L);
        CHECK.due("ruleFor(0, 7)", x.ruleFor(0, 7), 2L);
    }

    private static void atMostTwenty() {
        TrustRows x = new TrustRows(1);
        for (int i = 0; i < 20; i++) {
            CHECK.due("rule " + i, x.rule(i % 8, 0, 1, 1), i);
        }
        CHECK.due("one more", x.rule(0, 0, 1, 1), TrustRows.NONE);
        CHECK.due("ruleFor(3, 0)", x.ruleFor(3, 0), 19L);
        CHECK.due("ruleFor(0, 0)", x.ruleFor(0, 0), 16L);
    }

    private static void moreNamesGoAhead() {
        TrustRows x = new TrustRows(1);
        x.rule(3, 4, 1, 1);
        x.rule(3, TrustRows.NONE, 1, 1);
        x.rule(TrustRows.NONE, 4, 1, 1);
        x.rule(TrustRows.NONE, TrustRows.NONE, 1, 1);
        CHECK.due("both", x.ruleFor(3, 4), 0L);
        CHECK.due("the target", x.ruleFor(3, 5), 1L);
        CHECK.due("the branch", x.ruleFor(2, 4), 2L);
        CHECK.due("neither", x.ruleFor(2, 5), 3L);
        CHECK.due("turned about", x.ruleFor(4, 3), 3L);
    }

    private static void targetGoesAheadOfBranch() {
        TrustRows x = new TrustRows(1);
        x.rule(TrustRows.NONE, 4, 1, 1);
        CHECK.due("the branch alone", x.ruleFor(3, 4), 0L);
        CHECK.due("none", x.ruleFor(3, 5), TrustRows.NONE);
        x.rule(3, TrustRows.NONE, 1, 1);
        x.rule(TrustRows.NONE, 4, 1, 1);
        CHECK.due("the target between two branches", x.ruleFor(3, 4), 1L);
        CHECK.due("the later branch", x.ruleFor(0, 4), 2L);
    }

    private static void latestGoesAhead() {
        TrustRows x = new TrustRows(1);
        for (int i = 0; i < 3; i++) {
            x.rule(TrustRows.NONE, TrustRows.NONE, 1, 1);
            CHECK.due("any, any " + i, x.ruleFor(5, 5), i);
        }
        x.rule(5, 5, 1, 1);
        x.rule(5, 5, 2, 2);
        CHECK.due("the latest of both", x.ruleFor(5, 5), 4L);
        x.rule(5, TrustRows.NONE, 1, 1);
        CHECK.due("a lesser one later", x.ruleFor(5, 5), 4L);
    }

    private static void wrongQuestions() {
        TrustRows x = new TrustRows(1);
        x.rule(TrustRows.NONE, TrustRows.NONE, 1, 1);
        int[] wrong = {-1, 8, -2, Integer.MIN_VALUE, Integer.MAX_VALUE};
        for (int place : wrong) {
            CHECK.due("ruleFor(" + place + ", 0)", x.ruleFor(place, 0), TrustRows.NONE);
            CHECK.due("ruleFor(0, " + place + ")", x.ruleFor(0, place), TrustRows.NONE);
        }
        CHECK.due("ruleFor(0, 7)", x.ruleFor(0, 7), 0L);
        CHECK.due("ruleFor(7, 0)", x.ruleFor(7, 0), 0L);
    }
}
