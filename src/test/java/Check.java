/** Counts and prints the answers that are not as due; each test ends with end(). */
final class Check {
    interface Call {
        Object answer();
    }

    interface CallWith {
        Object answer(int argument);
    }

    private final String test;
    private int asked = 0;
    private int wrong = 0;

    Check(String test) {
        this.test = test;
    }

    /** The call answers that number, and throws nothing. */
    void due(String call, long want, Call made) {
        compare(call, Long.toString(want), outcome(made));
    }

    void dueDouble(String call, double want, Call made) {
        compare(call, Double.toString(want), outcome(made));
    }

    /** The call throws that exception, and none of a class below it, and changes nothing in the store. */
    void refused(String call, Class<? extends RuntimeException> want, Branchwork x, Call made) {
        String before = outcome(x::digest);
        compare(call, want.getSimpleName(), outcome(made));
        compare(call + ", digest after it", before, outcome(x::digest));
    }

    /** Each of the arguments is refused like that. */
    void refusedEach(String call, Class<? extends RuntimeException> want, Branchwork x, int[] arguments,
            CallWith made) {
        for (int argument : arguments) {
            refused(call + " " + argument, want, x, () -> made.answer(argument));
        }
    }

    void holds(String what, boolean true_) {
        compare(what, "true", Boolean.toString(true_));
    }

    void compare(String call, String want, String got) {
        asked++;
        if (!want.equals(got)) {
            wrong++;
            System.out.println(test + ": " + call + " answered " + got + ", due is " + want);
        }
    }

    static String outcome(Call made) {
        try {
            return String.valueOf(made.answer());
        } catch (RuntimeException e) {
            return e.getClass().getSimpleName();
        }
    }

    boolean isWrong() {
        return wrong > 0;
    }

    void end() {
        System.out.println(test + ": " + asked + " answers, " + wrong + " not as due");
        if (wrong > 0) {
            System.exit(1);
        }
    }
}
