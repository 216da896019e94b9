import java.util.function.Supplier;

/** Counts what is as it should be, and prints what is not. */
final class Check {
    private final String name;
    private int right = 0;
    private int wrong = 0;

    Check(String name) {
        this.name = name;
    }

    /** Checks that an answer is the one that is due. */
    void eq(String what, Object got, Object due) {
        if (due.equals(got)) {
            right++;
        } else {
            wrong++;
            System.out.println(name + ": " + what + " answered " + got + ", due is " + due);
        }
    }

    /** Checks that a call throws just that exception. */
    void fails(String what, Class<? extends RuntimeException> due, Supplier<?> call) {
        eq(what, answer(call), due.getSimpleName());
    }

    /** What a call answers, or the name of the exception that it throws. */
    static Object answer(Supplier<?> call) {
        try {
            return call.get();
        } catch (RuntimeException thrown) {
            return thrown.getClass().getSimpleName();
        }
    }

    /** Ends the test, with the exit code 1 if anything was wrong. */
    void end() {
        System.out.println(name + ": " + right + " right, " + wrong + " wrong");
        if (wrong != 0 || right == 0) {
            System.exit(1);
        }
    }
}
