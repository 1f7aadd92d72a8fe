/**
 * No call throws, whatever its arguments and however many came before it (LANGUAGE.md, rule 7): each call with
 * all edges of its arguments, far beyond the 512th. What is answered there is free, but for its bounds.
 */
public final class NoThrowTest {
    private static final Check CHECK = new Check("NoThrowTest");
    private static final int[] INTS = {
        Integer.MIN_VALUE, -2, -1, 0, 1, 2, 5, 7, 8, 11, 12, 49, 50, 99, 100, 199, 200, Integer.MAX_VALUE};
    private static final int[] FEW_INTS = {Integer.MIN_VALUE, -2, -1, 0, 2, 7, 8, 12, Integer.MAX_VALUE};
    private static final long[] LONGS = {Long.MIN_VALUE, -1L, 0L, 7L, Long.MAX_VALUE};

    public static void main(String[] args) {
        for (int quorum : INTS) {
            TrustRows x = new TrustRows(quorum);
            // The second time around all is as full as these calls can make it.
            for (int round = 0; round < 2; round++) {
                lookAll(x);
                fillAll(x);
                takeAll(x);
                lookAll(x);
            }
            barAll(x);
            takeAll(x);
            lookAll(x);
            fillAll(x);
        }
        CHECK.end();
    }

    private static void within(String call, long got, long least, long most) {
        CHECK.due(call + " is within its bounds, answered " + got, got >= least && got <= most, true);
    }

    private static void fillAll(TrustRows x) {
        for (int i = 0; i < INTS.length; i++) {
            within("writer", x.writer(INTS[i]), -1L, 11L);
            within("writer", x.writer(i % 3), -1L, 11L);
        }
        keyAll(x);
        ruleAll(x);
        for (int writer : INTS) {
            resultAll(x, writer);
        }
    }

    private static void keyAll(TrustRows x) {
        for (int writer : INTS) {
            for (long key : LONGS) {
                for (long from : LONGS) {
                    for (long until : LONGS) {
                        within("key", x.key(writer, key, from, until), -1L, 3L);
                    }
                }
            }
        }
    }

    private static void ruleAll(TrustRows x) {
        for (int target : FEW_INTS) {
            for (int branch : FEW_INTS) {
                for (int level : FEW_INTS) {
                    for (int wanted : FEW_INTS) {
                        within("rule", x.rule(target, branch, level, wanted), -1L, 19L);
                    }
                }
            }
        }
    }

    private static void resultAll(TrustRows x, int writer) {
        for (long action : LONGS) {
            for (long digest : LONGS) {
                for (long under : LONGS) {
                    for (long xor : LONGS) {
                        for (long time : LONGS) {
                            within("result", x.result(writer, action, digest, under, xor, time), -4L, 99L);
                        }
                    }
                }
            }
        }
    }

    private static void takeAll(TrustRows x) {
        for (int turn = 0; turn < 2; turn++) {
            x.own(turn == 1);
            for (int target : FEW_INTS) {
                for (int branch : FEW_INTS) {
                    for (long action : LONGS) {
                        for (long time : LONGS) {
                            within("take", x.take(action, target, branch, time), -2L, 2L);
                            within("counted", x.counted(action, target, branch, time), -1L, 12L);
                            x.taken();
                        }
                    }
                }
            }
        }
    }

    private static void lookAll(TrustRows x) {
        for (int i : INTS) {
            x.stands(i);
            for (int j : INTS) {
                within("ruleFor", x.ruleFor(i, j), -1L, 19L);
                within("clash", x.clash(i, j), -1L, 99L);
                within("audit", x.audit(i, j), -1L, 99L);
            }
        }
        for (long key : LONGS) {
            for (long action : LONGS) {
                for (long digest : LONGS) {
                    x.sum(key, action, digest);
                }
            }
        }
    }

    private static void barAll(TrustRows x) {
        for (int writer : INTS) {
            within("bar", x.bar(writer), -1L, 100L);
            within("bar again", x.bar(writer), -1L, -1L);
        }
    }
}
