/** Compares answers with those that are due, prints the ones that differ, and ends the test. */
final class Due {
    private final String test;
    private String sentence = "";
    private int looked;
    private int wrong;

    Due(String test) {
        this.test = test;
    }

    /** The sentence of the document that the answers from here on are about. */
    void about(String words) {
        sentence = "\"" + words + "\": ";
    }

    void is(String what, long got, long want) {
        looked++;
        if (got != want) {
            tell(what + " answered " + got + ", due is " + want);
        }
    }

    void isSame(String what, String got, String want) {
        looked++;
        if (!got.equals(want)) {
            tell(what + ":\n  " + got + "\n  due is\n  " + want);
        }
    }

    void isTrue(String what, boolean got) {
        is(what, got ? 1 : 0, 1);
    }

    void isThrown(String what, Class<? extends RuntimeException> kind, Runnable call) {
        looked++;
        String got = "nothing";
        try {
            call.run();
        } catch (RuntimeException e) {
            got = e.getClass().getSimpleName();
        }
        if (!got.equals(kind.getSimpleName())) {
            tell(what + " threw " + got + ", due is " + kind.getSimpleName());
        }
    }

    private void tell(String fault) {
        wrong++;
        System.out.println(test + ": " + sentence + fault);
    }

    void end() {
        System.out.println(test + ": " + looked + " answers looked at, " + wrong + " not as due");
        if (wrong != 0 || looked == 0) {
            System.exit(1);
        }
    }
}
