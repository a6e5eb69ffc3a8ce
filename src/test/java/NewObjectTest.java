/** Promise 1: no words, no objects, no input; nothing runs. */
public final class NewObjectTest {
    public static void main(String[] args) {
        Due due = new Due("NewObjectTest");
        RvMachine m = new RvMachine();
        for (int what = 0; what <= 6; what++) {
            due.is("count(" + what + ")", m.count(what), 0);
        }
        due.is("state()", m.state(), 0);
        for (int k = 0; k <= 32; k++) {
            due.is("register(" + k + ")", m.register(k), 0);
        }
        due.is("take()", m.take(), 0);
        due.is("peek(65536)", m.peek(65536), -1);
        due.is("peek(0)", m.peek(0), -1);
        due.isThrown("run(1)", IllegalStateException.class, () -> m.run(1));
        due.isThrown("begin(0)", IndexOutOfBoundsException.class, () -> m.begin(0));
        due.isThrown("change(0, 1)", IndexOutOfBoundsException.class, () -> m.change(0, 1));
        due.is("state() after what was refused", m.state(), 0);
        lookAtTwoAtOnce(due);
        due.end();
    }

    // Objects share nothing.
    private static void lookAtTwoAtOnce(Due due) {
        RvMachine a = Asm.begun(Asm.li(5, 7), Asm.EBREAK);
        RvMachine b = new RvMachine();
        a.input(1, 1);
        a.run(2);
        due.is("state() of a", a.state(), 15);
        due.is("state() of b", b.state(), 0);
        due.is("count(0) of b", b.count(0), 0);
        due.is("count(6) of b", b.count(6), 0);
        due.is("register(5) of b", b.register(5), 0);
    }
}
