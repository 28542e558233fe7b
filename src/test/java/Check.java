/** Counts what is not as due, and ends a test with exit code 1 if there was any. */
final class Check {
    private final String test;
    private int asked = 0;
    private int wrong = 0;

    Check(String test) {
        this.test = test;
    }

    void due(String call, long got, long want) {
        due(call, Long.toString(got), Long.toString(want));
    }

    void due(String call, boolean got, boolean want) {
        due(call, Boolean.toString(got), Boolean.toString(want));
    }

    void due(String call, String got, String want) {
        asked++;
        if (!got.equals(want)) {
            wrong++;
            System.out.println(test + ": " + call + " answered " + got + ", due is " + want);
        }
    }

    /** The class must be the very one: what the machine throws is of a class below it. */
    void dueThrow(String call, Class<? extends RuntimeException> want, Runnable body) {
        String got = "nothing";
        try {
            body.run();
        } catch (RuntimeException e) {
            got = e.getClass().getName();
        }
        due(call + " throws", got, want.getName());
    }

    void end() {
        System.out.println(test + ": " + asked + " answers, " + wrong + " not as due");
        if (wrong != 0 || asked == 0) {
            System.exit(1);
        }
    }
}
