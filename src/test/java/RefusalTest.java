import java.util.ArrayList;
import java.util.List;
import java.util.function.Supplier;
import java.util.function.ToLongFunction;

/**
 * A refused call leaves the object as it was: it is made on one of two like objects, once while there is room
 * and once when all is full, and then both answer every question alike.
 */
public final class RefusalTest {
    private static final Check CHECK = new Check("RefusalTest");
    private static final int ANY = TrustRows.NONE;
    // Nothing is promised after 512 calls, so the questions are put to fresh objects, so many to each.
    private static final int QUESTIONS_EACH = 120;
    private static final List<ToLongFunction<TrustRows>> QUESTIONS = questions();

    public static void main(String[] args) {
        refusedAnywhere("with room", RefusalTest::withRoom);
        refusedAnywhere("full", RefusalTest::full);
        refusedWhenFull();
        questionsChangeNothing("with room", RefusalTest::withRoom);
        questionsChangeNothing("full", RefusalTest::full);
        CHECK.end();
    }

    /** Four writers, the last barred, with a clash, a rule, own results and rows of the audit. */
    private static TrustRows withRoom() {
        TrustRows x = Setup.withWriters(2, 0, 1, 2, 1);
        x.rule(1, ANY, 1, 1);
        Setup.tell(x, 0, 1L, 5L, 0L);
        Setup.tell(x, 1, 1L, 6L, 3L);
        Setup.tell(x, 1, 2L, 6L, 4L);
        Setup.tell(x, 2, 1L, 7L, 5L);
        Setup.tell(x, 3, 2L, 6L, 6L);
        x.take(2L, 1, 1, 9L);
        x.take(2L, 0, 0, 9L);
        x.bar(3);
        x.own(true);
        x.take(1L, 0, 0, 9L);
        return x;
    }

    private static TrustRows full() {
        TrustRows x = Setup.withWriters(2, 0, 1, 2, 1, 0, 1, 2, 1, 0, 1, 2, 1);
        for (int i = 0; i < 3; i++) {
            x.key(1, 50L + i, 0L, 10L);
        }
        for (int i = 0; i < 20; i++) {
            x.rule(i % 9 - 1, i % 2 == 0 ? ANY : i % 8, i % 3, 1 + i % 2);
        }
        for (int i = 0; i < 100; i++) {
            Setup.tell(x, i % 12, i / 24, i % 30 == 0 ? 6L : 5L, i % 10);
        }
        Setup.tellMany(x, 1, 60);
        x.bar(3);
        x.own(true);
        for (int i = 0; i < 120; i++) {
            x.take(0L, i % 8, i / 8 % 8, 9L);
        }
        return x;
    }

    private static List<ToLongFunction<TrustRows>> questions() {
        List<ToLongFunction<TrustRows>> all = new ArrayList<>();
        all.add(x -> x.taken());
        for (int i = -1; i < 101; i++) {
            int at = i;
            all.add(x -> x.stands(at) ? 1L : 0L);
        }
        for (int i = 0; i < 64; i++) {
            int target = i / 8;
            int branch = i % 8;
            all.add(x -> x.ruleFor(target, branch));
            all.add(x -> x.counted(1L, target, branch, 9L));
        }
        for (int i = 0; i < 6; i++) {
            long action = i;
            all.add(x -> x.counted(action, 0, 0, 4L));
            all.add(x -> x.clash((int) action, 0));
            all.add(x -> x.clash((int) action, 1));
            all.add(x -> x.take(action, 2, 2, 9L));
            all.add(x -> x.take(action, 2, 2, 4L));
        }
        for (int i = 0; i < 125; i++) {
            int row = i;
            all.add(x -> x.audit(row, 0));
            all.add(x -> x.audit(row, 4));
        }
        all.add(x -> x.writer(1));
        all.add(x -> x.rule(2, 2, 1, 1));
        for (int i = 0; i < 12; i++) {
            int writer = i;
            all.add(x -> Setup.tell(x, writer, 77L, 1L, 2L));
            all.add(x -> x.key(writer, 9L, 0L, 5L));
            all.add(x -> x.result(writer, 78L, 1L, 9L, 0L, 3L));
            all.add(x -> x.result(writer, 79L, 1L, 60L, 0L, 3L));
            all.add(x -> x.bar(writer));
        }
        return all;
    }

    private static void refused(String name, Supplier<TrustRows> made, long answer, ToLongFunction<TrustRows> call) {
        for (int start = 0; start < QUESTIONS.size(); start += QUESTIONS_EACH) {
            TrustRows asked = made.get();
            TrustRows spared = made.get();
            CHECK.due(name, call.applyAsLong(asked), answer);
            int end = Math.min(start + QUESTIONS_EACH, QUESTIONS.size());
            for (int i = start; i < end; i++) {
                String then = name + ", then question " + i;
                CHECK.due(then, QUESTIONS.get(i).applyAsLong(asked), QUESTIONS.get(i).applyAsLong(spared));
            }
        }
    }

    private static void refusedAnywhere(String state, Supplier<TrustRows> made) {
        refused(state + ": writer(3)", made, -1L, x -> x.writer(3));
        refused(state + ": writer(-1)", made, -1L, x -> x.writer(-1));
        refused(state + ": key of none", made, -1L, x -> x.key(12, 60L, 0L, 10L));
        refused(state + ": key of a barred one", made, -1L, x -> x.key(3, 60L, 0L, 10L));
        refused(state + ": key from -1", made, -1L, x -> x.key(0, 60L, -1L, 10L));
        refused(state + ": key of no span", made, -1L, x -> x.key(0, 60L, 3L, 3L));
        refused(state + ": result of none", made, -1L, x -> Setup.tell(x, 12, 1L, 9L, 0L));
        refused(state + ": result of a barred one", made, -1L, x -> Setup.tell(x, 3, 1L, 9L, 0L));
        refused(state + ": result at -1", made, -1L, x -> Setup.tell(x, 1, 1L, 9L, -1L));
        refused(state + ": unfit", made, -2L, x -> x.result(1, 2L, 9L, Setup.keyOf(1), 1L, 4L));
        refused(state + ": known", made, -3L, x -> Setup.tell(x, 0, 1L, 5L, 9L));
        refused(state + ": bar of none", made, -1L, x -> x.bar(12));
        refused(state + ": bar again", made, -1L, x -> x.bar(3));
        refused(state + ": rule for 8", made, -1L, x -> x.rule(8, 2, 1, 1));
        refused(state + ": rule for branch -2", made, -1L, x -> x.rule(2, -2, 1, 1));
        refused(state + ": rule of level 3", made, -1L, x -> x.rule(2, 2, 3, 1));
        refused(state + ": rule that wants 0", made, -1L, x -> x.rule(2, 2, 1, 0));
        refused(state + ": rule that wants 6", made, -1L, x -> x.rule(2, 2, 1, 6));
        refused(state + ": take for 8", made, -2L, x -> x.take(1L, 8, 0, 9L));
        refused(state + ": take for branch -1", made, -2L, x -> x.take(1L, 0, -1, 9L));
        refused(state + ": take at -1", made, -2L, x -> x.take(1L, 0, 0, -1L));
        refused(state + ": take of too few", made, -1L, x -> x.take(500L, 0, 0, 9L));
    }

    private static void refusedWhenFull() {
        Supplier<TrustRows> made = RefusalTest::full;
        refused("full: writer", made, -1L, x -> x.writer(1));
        refused("full: a fifth key", made, -1L, x -> x.key(1, 60L, 0L, 10L));
        refused("full: rule", made, -1L, x -> x.rule(2, 2, 1, 1));
        refused("full: result", made, -4L, x -> Setup.tell(x, 1, 77L, 1L, 2L));
        refused("full: result that would clash", made, -4L, x -> Setup.tell(x, 2, 1L, 99L, 2L));
    }

    private static void questionsChangeNothing(String state, Supplier<TrustRows> made) {
        refused(state + ": sum", made, 8258202604479039397L, x -> x.sum(5L, 1L, 9L));
        refused(state + ": ruleFor outside", made, -1L, x -> x.ruleFor(8, 0));
        refused(state + ": counted outside", made, -1L, x -> x.counted(1L, 8, 0, 9L));
        refused(state + ": counted of none", made, 0L, x -> x.counted(500L, 0, 0, 9L));
        refused(state + ": stands outside", made, 0L, x -> x.stands(-1) ? 1L : 0L);
        refused(state + ": clash outside", made, -1L, x -> x.clash(-1, 0));
        refused(state + ": audit outside", made, -1L, x -> x.audit(-1, 0));
    }
}
