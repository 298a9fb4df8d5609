import java.util.Objects;

/** Counts answers that are due and calls that must throw; ends the test with exit code 1 if one was wrong. */
final class Check {
    private final String name;
    private int right;
    private int wrong;

    Check(String name) {
        this.name = name;
    }

    void due(String what, Object got, Object want) {
        if (Objects.equals(got, want)) {
            right++;
        } else {
            wrong++;
            System.out.println(name + ": " + what + " answered " + got + ", due is " + want);
        }
    }

    /** The very class is asked, as what the machine throws by itself is of a class below it. */
    void refused(Repeatroll house, String what, Class<? extends RuntimeException> want, Runnable call) {
        String before = Shot.of(house);
        Class<?> got = null;
        try {
            call.run();
        } catch (RuntimeException thrown) {
            got = thrown.getClass();
        }
        due(what + " throws", got, want);
        due("after " + what + " the house", Shot.of(house), before);
    }

    void end() {
        System.out.println(name + ": " + right + " right, " + wrong + " wrong");
        if (wrong != 0 || right == 0) {
            System.exit(1);
        }
    }
}
