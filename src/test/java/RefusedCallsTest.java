import java.util.function.Consumer;
import java.util.function.Supplier;

/**
 * "Where a heading names several exceptions, the first of them that fits is thrown; nothing is changed by that."
 * Every call that the document refuses, before a run, in one, and after each of its ends.
 */
public final class RefusedCallsTest {
    private static final int MIN = Integer.MIN_VALUE;
    private static final int MAX = Integer.MAX_VALUE;
    private static final Class<IllegalArgumentException> ARGUMENT = IllegalArgumentException.class;
    private static final Class<IllegalStateException> STATE = IllegalStateException.class;
    private static final Class<IndexOutOfBoundsException> INDEX = IndexOutOfBoundsException.class;

    private final Due due;
    private final String where;
    private final Supplier<RvMachine> made;

    private RefusedCallsTest(Due due, String where, Supplier<RvMachine> made) {
        this.due = due;
        this.where = where;
        this.made = made;
    }

    public static void main(String[] args) {
        Due due = new Due("RefusedCallsTest");
        due.about("nothing is changed by that");
        for (int state : Busy.STATES) {
            due.is("the state that is looked at", Busy.inState(state).state(), state);
            RefusedCallsTest test = new RefusedCallsTest(due, " in state " + state, () -> Busy.inState(state));
            test.lookAtIndices();
            test.lookAtArguments();
            test.lookAtRun(state);
        }
        new RefusedCallsTest(due, " of a new object", RvMachine::new).lookAtNewObject();
        lookAtFullInput(due);
        lookAtFirstThatFits(due);
        due.end();
    }

    private void refused(String what, Class<? extends RuntimeException> kind, Consumer<RvMachine> call) {
        Edge.refused(due, what + where, kind, made, call);
    }

    private void lookAtIndices() {
        int n = Busy.words();
        for (int k : new int[] {-1, n, n + 1, 0x40000000, MIN, MAX}) {
            refused("change(" + k + ", 19)", INDEX, m -> m.change(k, Asm.NOP));
            refused("begin(" + k + ")", INDEX, m -> m.begin(k));
        }
        for (int k : new int[] {0, -1, 32, 33, MIN, MAX}) {
            refused("set(" + k + ", 7)", INDEX, m -> m.set(k, 7));
        }
        for (int k : new int[] {-1, 33, 34, MIN, MAX}) {
            refused("register(" + k + ")", INDEX, m -> m.register(k));
        }
    }

    private void lookAtArguments() {
        for (int n : new int[] {-1, 9, 10, MIN, MAX}) {
            refused("input(-1, " + n + ")", ARGUMENT, m -> m.input(-1, n));
        }
        for (int what : new int[] {-1, 7, 8, MIN, MAX}) {
            refused("count(" + what + ")", ARGUMENT, m -> m.count(what));
        }
    }

    private void lookAtRun(int state) {
        for (int n : new int[] {0, -1, 10001, 10002, MIN, MAX}) {
            refused("run(" + n + ")", ARGUMENT, m -> m.run(n));
        }
        if (state != 1) {
            for (int n : new int[] {1, 2, 9999, 10000}) {
                refused("run(" + n + ")", STATE, m -> m.run(n));
            }
        }
    }

    private void lookAtNewObject() {
        for (int k : new int[] {-1, 0, 1}) {
            refused("change(" + k + ", 19)", INDEX, m -> m.change(k, Asm.NOP));
            refused("begin(" + k + ")", INDEX, m -> m.begin(k));
        }
        refused("run(1)", STATE, m -> m.run(1));
        refused("run(0)", ARGUMENT, m -> m.run(0));
        refused("set(0, 7)", INDEX, m -> m.set(0, 7));
        refused("input(1, 9)", ARGUMENT, m -> m.input(1, 9));
    }

    /** A new object with so many bytes of input. */
    private static RvMachine withInput(int bytes) {
        RvMachine m = new RvMachine();
        for (int i = 0; i < bytes; i += 8) {
            m.input(0x8182838485868788L + i, Math.min(8, bytes - i));
        }
        return m;
    }

    private static void lookAtFullInput(Due due) {
        int[][] refused = {{1000, 1}, {1000, 8}, {999, 2}, {999, 8}, {993, 8}, {992 + 7, 3}};
        for (int[] row : refused) {
            new RefusedCallsTest(due, " with " + row[0] + " bytes there", () -> withInput(row[0]))
                .refused("input(-1, " + row[1] + ")", STATE, m -> m.input(-1, row[1]));
        }
    }

    // Both exceptions of the heading fit: the one that it names first is thrown.
    private static void lookAtFirstThatFits(Due due) {
        due.about("the first of them that fits is thrown");
        RefusedCallsTest full = new RefusedCallsTest(due, " with 1000 bytes there", () -> withInput(1000));
        for (int n : new int[] {-1, 9, MIN, MAX}) {
            full.refused("input(-1, " + n + ")", ARGUMENT, m -> m.input(-1, n));
        }
        for (int state : new int[] {0, 2, 14}) {
            RefusedCallsTest ended = new RefusedCallsTest(due, " in state " + state, () -> Busy.inState(state));
            for (int n : new int[] {0, 10001}) {
                ended.refused("run(" + n + ")", ARGUMENT, m -> m.run(n));
            }
        }
    }
}
