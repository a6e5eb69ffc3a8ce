import java.util.function.Consumer;
import java.util.function.Supplier;

/** Looks at calls and instructions that are refused, and that nothing is changed by that. */
final class Edge {
    private Edge() { }

    /** The call is refused; all that can be seen is as before, and later as in a machine without that call. */
    static void refused(Due due, String what, Class<? extends RuntimeException> kind, Supplier<RvMachine> made,
            Consumer<RvMachine> call) {
        RvMachine m = made.get();
        String before = Seen.now(m, Busy.ADDRESSES);
        due.isThrown(what, kind, () -> call.accept(m));
        due.isSame("after " + what, Seen.now(m, Busy.ADDRESSES), before);
        due.isSame("later than " + what, Seen.later(m, Busy.ADDRESSES), Seen.later(made.get(), Busy.ADDRESSES));
    }

    /** The next instruction is a trap: it does not count, it ends the run, and nothing of it is done. */
    static void trapped(Due due, String what, RvMachine m, int trap, int... addresses) {
        String before = Seen.besideState(m, addresses);
        due.is(what + ": state() before it", m.state(), 1);
        due.is(what + ": run(3)", m.run(3), 0);
        due.is(what + ": state()", m.state(), 10 + trap);
        due.isSame(what, Seen.besideState(m, addresses), before);
        due.isThrown(what + ": run(1) behind it", IllegalStateException.class, () -> m.run(1));
        due.is(what + ": state() then", m.state(), 10 + trap);
    }

    /** As trapped, of a service on a machine of Asm.forServices. */
    static void trappedService(Due due, RvMachine m, int trap, int[] call, int... addresses) {
        Asm.setForService(m, call[0], call[1], call[2], call[3]);
        trapped(due, "service " + call[0] + " of " + call[1] + ", " + call[2] + ", " + call[3], m, trap, addresses);
    }
}
