import java.util.Objects;

/** Counts answers that are due; ends the test with exit code 1 if one was wrong. */
final class Check {
    private final String name;
    private int right;
    private int wrong;

    Check(String name) {
        this.name = name;
    }

    void due(String what, Object got, Object want) {
        if (Objects.equals(got, want)) {
            right++;
        } else {
            wrong++;
            System.out.println(name + ": " + what + " answered " + got + ", due is " + want);
        }
    }

    /** Whether a throw of the house threw it: neither the machine nor the library, which must not throw by themselves. */
    static boolean isOwn(Throwable thrown) {
        return thrown.getStackTrace().length > 0 && thrown.getStackTrace()[0].getClassName().startsWith("Repeatroll") && thrown.getMessage() != null;
    }

    void end() {
        System.out.println(name + ": " + right + " right, " + wrong + " wrong");
        if (wrong != 0 || right == 0) {
            System.exit(1);
        }
    }
}
