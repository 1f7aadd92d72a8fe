/** Short ways to bring an object into the state that a test starts from. */
final class Setup {
    static final long FOREVER = Long.MAX_VALUE;

    private Setup() {
    }

    /** The key that writerWithKey gives to a writer. */
    static long keyOf(int writer) {
        return 1000L + writer;
    }

    static int writerWithKey(TrustRows x, int level) {
        int writer = x.writer(level);
        x.key(writer, keyOf(writer), 0L, FOREVER);
        return writer;
    }

    /** An object whose writers, numbered from 0, have these levels and a key each that always counts. */
    static TrustRows withWriters(int quorum, int... levels) {
        TrustRows x = new TrustRows(quorum);
        for (int level : levels) {
            writerWithKey(x, level);
        }
        return x;
    }

    /** A result with the sum under the key that writerWithKey gave. */
    static int tell(TrustRows x, int writer, long action, long digest, long time) {
        return x.result(writer, action, digest, keyOf(writer), 0L, time);
    }

    /** Results of one writer for the actions 0 and up, all of digest 1 at time 0. */
    static void tellMany(TrustRows x, int writer, int many) {
        for (int action = 0; action < many; action++) {
            tell(x, writer, action, 1L, 0L);
        }
    }
}
