/** What the tests share: it compares answers with what is due and counts the wrong ones. */
final class Checks {
    interface Call {
        Object answer();
    }

    interface Action {
        void run();
    }

    private final String test;
    private int done = 0;
    private int wrong = 0;

    Checks(String test) {
        this.test = test;
    }

    void due(String what, Object want, Call call) {
        Object got = outcome(call);
        done++;
        if (!want.equals(got)) {
            wrong++;
            System.out.println(test + ": " + what + " answered " + got + ", due is " + want);
        }
    }

    /** The class of what is thrown must be the very one: a machine's subclass of it is wrong. */
    void dueThrow(String what, Class<? extends RuntimeException> want, Action action) {
        due(what, "throws." + want.getSimpleName(), () -> {
            action.run();
            return "nothing";
        });
    }

    void noSuchOne(String what, Action action) {
        dueThrow(what, IndexOutOfBoundsException.class, action);
    }

    void badArgument(String what, Action action) {
        dueThrow(what, IllegalArgumentException.class, action);
    }

    void badState(String what, Action action) {
        dueThrow(what, IllegalStateException.class, action);
    }

    void finish() {
        System.out.println(test + ": " + done + " checks, " + wrong + " wrong");
        if (wrong != 0 || done == 0) {
            System.exit(1);
        }
    }

    static Object outcome(Call call) {
        try {
            return call.answer();
        } catch (RuntimeException e) {
            return "throws." + e.getClass().getSimpleName();
        }
    }
}
