/** Compares answers with what is due, tells each that is wrong, and ends a test. */
final class Due {
    private int wrong;
    private int compared;

    void equal(String what, long got, long want) {
        compared++;
        if (got != want) {
            wrong++;
            System.out.println(what + " answered " + got + ", due is " + want);
        }
    }

    void yes(String what, boolean got) {
        equal(what, got ? 1 : 0, 1);
    }

    void no(String what, boolean got) {
        equal(what, got ? 1 : 0, 0);
    }

    void text(String what, String got, String want) {
        compared++;
        if (!got.equals(want)) {
            wrong++;
            System.out.println(what + " answered " + got + ", due is " + want);
        }
    }

    void outOfBounds(String what, Runnable call) {
        thrown(what, "IndexOutOfBoundsException", call);
    }

    void badArgument(String what, Runnable call) {
        thrown(what, "IllegalArgumentException", call);
    }

    void badState(String what, Runnable call) {
        thrown(what, "IllegalStateException", call);
    }

    void thrown(String what, String want, Runnable call) {
        String got = "nothing";
        try {
            call.run();
        } catch (RuntimeException e) {
            got = e.getClass().getSimpleName();
        }
        text(what + " throws", got, want);
    }

    void end() {
        System.out.println(compared + " answers compared, " + wrong + " wrong");
        if (wrong != 0) {
            System.exit(1);
        }
    }
}
