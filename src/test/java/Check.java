import java.util.Objects;

/** Counts answers that are due and calls that must throw; ends the test with exit code 1 if one was wrong. */
final class Check {
    private final String name;
    private int right;
    private int wrong;

    Check(String name) {
        this.name = name;
    }

    void due(String what, Object got, Object want) {
        if (Objects.equals(got, want)) {
            right++;
        } else {
            wrong++;
            System.out.println(name + ": " + what + " answered " + got + ", due is " + want);
        }
    }

    /** The very class is asked and where it was thrown, as the machine and the library must not throw by themselves. */
    void refused(Repeatroll house, String what, Class<? extends RuntimeException> want, Runnable call) {
        String before = Shot.of(house);
        Class<?> got = null;
        boolean isOwn = false;
        try {
            call.run();
        } catch (RuntimeException thrown) {
            got = thrown.getClass();
            isOwn = isOwn(thrown);
        }
        due(what + " throws", got, want);
        due(what + " is thrown by the house itself", isOwn, true);
        due("after " + what + " the house", Shot.of(house), before);
    }

    static boolean isOwn(Throwable thrown) {
        return thrown.getStackTrace().length > 0 && thrown.getStackTrace()[0].getClassName().startsWith("Repeatroll") && thrown.getMessage() != null;
    }

    void end() {
        System.out.println(name + ": " + right + " right, " + wrong + " wrong");
        if (wrong != 0 || right == 0) {
            System.exit(1);
        }
    }
}
