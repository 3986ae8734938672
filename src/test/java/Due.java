/** What a test asks of the program; it prints every answer that is not the one that is due. */
final class Due {
    private final String test;
    private int asked;
    private int wrong;

    Due(String test) {
        this.test = test;
    }

    void is(String call, long got, long want) {
        asked++;
        if (got != want) {
            tell(call + " answered " + got + ", due is " + want);
        }
    }

    void is(String call, boolean got, boolean want) {
        is(call, got ? 1 : 0, want ? 1 : 0);
    }

    /** The class itself: what the machine throws by itself is below it and will not do. */
    void refuses(String call, Class<? extends RuntimeException> want, Runnable run) {
        asked++;
        try {
            run.run();
            tell(call + " threw nothing, due is " + want.getSimpleName());
        } catch (RuntimeException e) {
            if (e.getClass() != want) {
                tell(call + " threw " + e + ", due is " + want.getSimpleName());
            }
        }
    }

    void index(String call, Runnable run) {
        refuses(call, IndexOutOfBoundsException.class, run);
    }

    void argument(String call, Runnable run) {
        refuses(call, IllegalArgumentException.class, run);
    }

    void state(String call, Runnable run) {
        refuses(call, IllegalStateException.class, run);
    }

    void tell(String text) {
        wrong++;
        if (wrong <= 40) {
            System.out.println(test + ": " + text);
        }
    }

    void finish() {
        System.out.println(test + ": " + asked + " answers, " + wrong + " not as due");
        if (wrong != 0 || asked == 0) {
            System.exit(1);
        }
    }
}
