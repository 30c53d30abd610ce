/** Counts wrong answers, so that a test can print each of them and end with the exit code 1. */
final class Check {
    interface Call {
        Object answer();
    }

    private int asked;
    private int wrong;

    void due(String call, Object got, Object want) {
        asked++;
        if (!want.equals(got)) {
            wrong++;
            System.out.println(call + " answered " + got + ", due is " + want);
        }
    }

    /** The exception must be of this very class, and nothing else may come. */
    void throwing(String call, Class<? extends RuntimeException> kind, Call done) {
        asked++;
        Object got;
        try {
            got = done.answer();
        } catch (RuntimeException e) {
            if (e.getClass() == kind) {
                return;
            }
            got = e;
        }
        wrong++;
        System.out.println(call + " answered " + got + ", due is " + kind.getName());
    }

    void noPlace(String call, Call done) {
        throwing(call, IndexOutOfBoundsException.class, done);
    }

    void noArgument(String call, Call done) {
        throwing(call, IllegalArgumentException.class, done);
    }

    void noElement(String call, Call done) {
        throwing(call, java.util.NoSuchElementException.class, done);
    }

    void noState(String call, Call done) {
        throwing(call, IllegalStateException.class, done);
    }

    void noOperation(String call, Call done) {
        throwing(call, UnsupportedOperationException.class, done);
    }

    void end() {
        System.out.println(asked + " answers looked at, " + wrong + " wrong");
        if (wrong > 0 || asked == 0) {
            System.exit(1);
        }
    }
}
