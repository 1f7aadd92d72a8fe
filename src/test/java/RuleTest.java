/** Promises 8 and 9, and the terms on rules: which there are, and which one is for a target and a branch. */
public final class RuleTest {
    private static final Check CHECK = new Check("RuleTest");
    private static final int ANY = TrustRows.NONE;

    public static void main(String[] args) {
        targetAsTold();
        branchAsTold();
        levelAsTold();
        wantedAsTold();
        wrongInSeveralWays();
        atMostTwenty();
        anyFitsEverywhere();
        namedFitsThereAlone();
        moreNamesGoAhead();
        targetGoesAheadOfBranch();
        latestGoesAhead();
        ruleForNone();
        ruleForOutside();
        CHECK.end();
    }

    private static void dueRules(String name, int[][] rows, boolean fine) {
        TrustRows x = new TrustRows(1);
        int next = 0;
        for (int[] row : rows) {
            String call = name + ": rule(" + row[0] + ", " + row[1] + ", " + row[2] + ", " + row[3] + ")";
            CHECK.due(call, x.rule(row[0], row[1], row[2], row[3]), fine ? next++ : TrustRows.NONE);
        }
        CHECK.due(name + ": the next number", x.rule(0, 0, 0, 1), next);
    }

    // "NONE if ... something isn't as told": a TARGET is 0 .. 7, or any.
    private static void targetAsTold() {
        dueRules("target", new int[][] {{ANY, 3, 1, 1}, {0, 3, 1, 1}, {1, 3, 1, 1}, {7, 3, 1, 1}}, true);
        dueRules("target", new int[][] {{-2, 3, 1, 1}, {8, 3, 1, 1}, {9, 3, 1, 1},
            {Integer.MIN_VALUE, 3, 1, 1}, {Integer.MAX_VALUE, 3, 1, 1}}, false);
    }

    // A BRANCH is 0 .. 7, or any.
    private static void branchAsTold() {
        dueRules("branch", new int[][] {{3, ANY, 1, 1}, {3, 0, 1, 1}, {3, 1, 1, 1}, {3, 7, 1, 1}}, true);
        dueRules("branch", new int[][] {{3, -2, 1, 1}, {3, 8, 1, 1}, {3, 9, 1, 1},
            {3, Integer.MIN_VALUE, 1, 1}, {3, Integer.MAX_VALUE, 1, 1}}, false);
    }

    // A LEVEL is 0, 1 or 2.
    private static void levelAsTold() {
        dueRules("level", new int[][] {{3, 3, 0, 1}, {3, 3, 1, 1}, {3, 3, 2, 1}}, true);
        dueRules("level", new int[][] {{3, 3, -1, 1}, {3, 3, 3, 1},
            {3, 3, Integer.MIN_VALUE, 1}, {3, 3, Integer.MAX_VALUE, 1}}, false);
    }

    // "how many that agree are wanted (1 .. 5)".
    private static void wantedAsTold() {
        dueRules("wanted", new int[][] {{3, 3, 1, 1}, {3, 3, 1, 2}, {3, 3, 1, 4}, {3, 3, 1, 5}}, true);
        dueRules("wanted", new int[][] {{3, 3, 1, 0}, {3, 3, 1, -1}, {3, 3, 1, 6},
            {3, 3, 1, Integer.MIN_VALUE}, {3, 3, 1, Integer.MAX_VALUE}}, false);
    }

    private static void wrongInSeveralWays() {
        dueRules("several", new int[][] {{-2, 8, 1, 1}, {8, 3, 3, 1}, {3, -2, -1, 6}, {8, 8, 3, 0}}, false);
        TrustRows x = new TrustRows(1);
        x.rule(8, ANY, 1, 1);
        x.rule(ANY, ANY, 3, 1);
        x.rule(ANY, ANY, 1, 6);
        CHECK.due("no rule came of it", x.ruleFor(0, 0), TrustRows.NONE);
    }

    // "RULES, at most 20"; "NONE if there are 20".
    private static void atMostTwenty() {
        TrustRows x = new TrustRows(1);
        for (int i = 0; i < 20; i++) {
            CHECK.due("rule " + i, x.rule(i % 8, 0, 1, 1), i);
        }
        CHECK.due("one more", x.rule(0, 0, 1, 1), TrustRows.NONE);
        CHECK.due("one more for another place", x.rule(5, 5, 1, 1), TrustRows.NONE);
        CHECK.due("the last is held", x.ruleFor(3, 0), 19L);
        CHECK.due("a refused one isn't", x.ruleFor(0, 0), 16L);
        CHECK.due("nor where there was none", x.ruleFor(5, 5), TrustRows.NONE);
    }

    private static void anyFitsEverywhere() {
        TrustRows x = new TrustRows(1);
        x.rule(ANY, ANY, 1, 1);
        for (int place = 0; place < 64; place++) {
            CHECK.due("any, any at " + place, x.ruleFor(place / 8, place % 8), 0L);
        }
    }

    private static void namedFitsThereAlone() {
        for (int named = 0; named < 8; named++) {
            TrustRows both = new TrustRows(1);
            TrustRows target = new TrustRows(1);
            TrustRows branch = new TrustRows(1);
            both.rule(named, 7 - named, 1, 1);
            target.rule(named, ANY, 1, 1);
            branch.rule(ANY, named, 1, 1);
            for (int place = 0; place < 64; place++) {
                int t = place / 8;
                int b = place % 8;
                String at = named + " at " + t + ", " + b;
                CHECK.due("both " + at, both.ruleFor(t, b), t == named && b == 7 - named ? 0L : TrustRows.NONE);
                CHECK.due("target " + at, target.ruleFor(t, b), t == named ? 0L : TrustRows.NONE);
                CHECK.due("branch " + at, branch.ruleFor(t, b), b == named ? 0L : TrustRows.NONE);
            }
        }
    }

    // "of those that fit, the one that names more of the two".
    private static void moreNamesGoAhead() {
        TrustRows x = new TrustRows(1);
        x.rule(3, 4, 1, 1);
        x.rule(3, ANY, 1, 1);
        x.rule(ANY, 4, 1, 1);
        x.rule(ANY, ANY, 1, 1);
        CHECK.due("both", x.ruleFor(3, 4), 0L);
        CHECK.due("the target", x.ruleFor(3, 5), 1L);
        CHECK.due("the branch", x.ruleFor(2, 4), 2L);
        CHECK.due("neither", x.ruleFor(2, 5), 3L);
        CHECK.due("turned about", x.ruleFor(4, 3), 3L);
        TrustRows y = new TrustRows(1);
        y.rule(ANY, ANY, 1, 1);
        y.rule(ANY, 4, 1, 1);
        CHECK.due("a branch behind neither", y.ruleFor(3, 4), 1L);
        y.rule(3, ANY, 1, 1);
        y.rule(3, 4, 1, 1);
        CHECK.due("both behind all", y.ruleFor(3, 4), 3L);
    }

    // "of like ones the one that names the TARGET".
    private static void targetGoesAheadOfBranch() {
        TrustRows x = new TrustRows(1);
        x.rule(ANY, 4, 1, 1);
        CHECK.due("the branch alone", x.ruleFor(3, 4), 0L);
        x.rule(3, ANY, 1, 1);
        CHECK.due("the target later", x.ruleFor(3, 4), 1L);
        x.rule(ANY, 4, 1, 1);
        CHECK.due("the target between two branches", x.ruleFor(3, 4), 1L);
        CHECK.due("the later branch", x.ruleFor(0, 4), 2L);
    }

    // "of like ones the latest".
    private static void latestGoesAhead() {
        int[][] kinds = {{ANY, ANY}, {ANY, 5}, {5, ANY}, {5, 5}};
        TrustRows x = new TrustRows(1);
        int number = 0;
        for (int[] kind : kinds) {
            for (int i = 0; i < 3; i++) {
                x.rule(kind[0], kind[1], 2 - i, 1 + i);
                CHECK.due("kind " + kind[0] + ", " + kind[1], x.ruleFor(5, 5), number++);
            }
        }
        x.rule(5, ANY, 1, 1);
        x.rule(5, 4, 1, 1);
        CHECK.due("lesser and other ones later", x.ruleFor(5, 5), 11L);
    }

    // "NONE if there is none".
    private static void ruleForNone() {
        TrustRows x = new TrustRows(1);
        CHECK.due("without rules", x.ruleFor(0, 0), TrustRows.NONE);
        x.rule(0, 0, 1, 1);
        CHECK.due("with one that fits", x.ruleFor(0, 0), 0L);
        CHECK.due("another branch", x.ruleFor(0, 1), TrustRows.NONE);
        CHECK.due("another target", x.ruleFor(1, 0), TrustRows.NONE);
    }

    // "NONE if ... one of them isn't 0 .. 7".
    private static void ruleForOutside() {
        TrustRows x = new TrustRows(1);
        x.rule(ANY, ANY, 1, 1);
        int[] wrong = {-1, 8, -2, 9, Integer.MIN_VALUE, Integer.MAX_VALUE};
        for (int place : wrong) {
            CHECK.due("ruleFor(" + place + ", 0)", x.ruleFor(place, 0), TrustRows.NONE);
            CHECK.due("ruleFor(0, " + place + ")", x.ruleFor(0, place), TrustRows.NONE);
            CHECK.due("ruleFor(7, " + place + ")", x.ruleFor(7, place), TrustRows.NONE);
            CHECK.due("ruleFor of twice " + place, x.ruleFor(place, place), TrustRows.NONE);
        }
        CHECK.due("ruleFor(0, 0)", x.ruleFor(0, 0), 0L);
        CHECK.due("ruleFor(0, 7)", x.ruleFor(0, 7), 0L);
        CHECK.due("ruleFor(7, 0)", x.ruleFor(7, 0), 0L);
        CHECK.due("ruleFor(7, 7)", x.ruleFor(7, 7), 0L);
    }
}
