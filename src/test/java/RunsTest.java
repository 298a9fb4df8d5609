/** "Runs" and the promises 40 to 43: runs that wait, with washes between. */
public final class RunsTest {
    private static final Book BOOK = new Book("RunsTest");
    /** The colourways 0 to 3 of the cylinders 0 and 1, 2 and 3, 0 and 2, and of none; no ink is made of two others. */
    private static final String COLOURED = "motif(2, 2, 's'); motif(2, 2, 's'); paint(0, 0, 0, 1, 1, 1); paint(0, 1, 1, 1, 1, 2);"
        + "ink(91, 91, 91); ink(83, 83, 83); ink(71, 71, 71); ink(67, 67, 67); colourway(0); colourway(0); colourway(0); colourway(1);"
        + "dye(0, 1, 0); dye(0, 2, 1); dye(1, 1, 2); dye(1, 2, 3); dye(2, 1, 0); dye(2, 2, 2);";
    private static final String NOT_WHOLE = COLOURED + "run(0); run(2); paint(1, 0, 0, 1, 1, 1);";
    private static final String SIX_RUNS = COLOURED + "run(0); run(1); run(2); run(3); run(0); run(1);";

    private RunsTest() {
    }

    public static void main(String[] args) {
        runs();
        costs();
        run();
        washes();
        runAt();
        start();
        BOOK.end();
    }

    /** Six colourways of the cylinders 0 to 4, 0 to 3, and so on, down to none. */
    private static String nested() {
        StringBuilder script = new StringBuilder("ink(51, 51, 51); ink(52, 52, 52); ink(53, 53, 53); ink(54, 54, 54); ink(55, 55, 55);");
        for (int number = 0; number < 6; number++) {
            script.append("motif(6, 2, 's'); colourway(" + number + ");");
            for (int colour = 1; colour <= 5 - number; colour++) {
                script.append("paint(" + number + ", " + colour + ", 0, 1, 1, " + colour + ");");
                script.append("dye(" + number + ", " + colour + ", " + (colour - 1) + ");");
            }
        }
        return script.toString();
    }

    private static void runs() {
        BOOK.open("Runs");
        BOOK.holds("At most 6 runs wait",
            COLOURED,
            "run(0) = 1; run(1) = 2; run(2) = 3; run(3) = 4; run(0) = 5; run(0) = 6; run(0) = throws.IllegalStateException; start(); run(0) = 6",
            "run(0) = throws.IllegalStateException");
        BOOK.holds("each of a whole colourway",
            COLOURED, "run(0) = 1; paint(0, 1, 0, 1, 1, 3); run(0) = throws.UnsupportedOperationException; dye(0, 3, 0); run(0) = 2");
        BOOK.holds("with the cylinders that this has as the run is told",
            COLOURED,
            "run(0) = 1; dye(0, 1, 3); dye(0, 2, 3); washes() = 2; run(0) = 2; washes() = 4; paint(0, 0, 0, 2, 2, 0); washes() = 4; run(0) = 3",
            "washes() = 4; start() = 0; washes() = 2");
        BOOK.holds("with the cylinders that this has as the run is told",
            COLOURED, "run(0); paint(0, 1, 0, 1, 1, 3); washes() = 2; runAt(0) = 0; start() = 0");
    }

    private static void costs() {
        BOOK.holds("Their order costs the cylinders of the first one", COLOURED, "run(0); washes() = 2; start(); run(3); washes() = 0");
        BOOK.holds("for each further one those that are in one of both neighbours and not in the other",
            COLOURED, "run(0); run(2); washes() = 4; run(2); washes() = 4; start(); run(1); washes() = 4");
        BOOK.holds("for each further one those that are in one of both neighbours and not in the other",
            COLOURED, "run(0); run(1); washes() = 6; run(2); washes() = 6; run(3); washes() = 6");
        BOOK.holds("the best order costs least", COLOURED, "run(0); run(3); washes() = 2; runAt(0) = 1; runAt(1) = 0");
        BOOK.holds("the best order costs least",
            nested(),
            "run(0); run(1); run(2); run(3); run(4); run(5); washes() = 5; runAt(0) = 5; runAt(1) = 4; runAt(2) = 3; runAt(3) = 2; runAt(4) = 1",
            "runAt(5) = 0");
        BOOK.holds("the best order costs least",
            nested(),
            "run(5); run(4); run(3); run(2); run(1); run(0); washes() = 5; runAt(0) = 0; runAt(1) = 1; runAt(2) = 2; runAt(3) = 3; runAt(4) = 4",
            "runAt(5) = 5");
        BOOK.holds("the best order costs least",
            nested(),
            "run(2); run(0); run(4); run(5); run(1); run(3); washes() = 5; runAt(0) = 3; runAt(1) = 2; runAt(2) = 5; runAt(3) = 0; runAt(4) = 4",
            "runAt(5) = 1");
        BOOK.holds("of several the first one by the numbers of runs",
            COLOURED, "run(0);".repeat(6), "washes() = 2; runAt(0) = 0; runAt(1) = 1; runAt(2) = 2; runAt(3) = 3; runAt(4) = 4; runAt(5) = 5");
        BOOK.holds("of several the first one by the numbers of runs", COLOURED, "run(0); run(1); run(2); runAt(0) = 0; runAt(1) = 2; runAt(2) = 1");
        BOOK.holds("of several the first one by the numbers of runs",
            COLOURED, "run(1); run(0); run(2); runAt(0) = 0; runAt(1) = 2; runAt(2) = 1; start() = 1");
        BOOK.holds("of several the first one by the numbers of runs", COLOURED, "run(0); run(1); runAt(0) = 0; runAt(1) = 1");
        BOOK.holds("as they were told, one by one",
            COLOURED, "run(0); run(1); run(2); run(0); washes() = 6; runAt(0) = 0; runAt(1) = 3; runAt(2) = 2; runAt(3) = 1");
        BOOK.holds("as they were told, one by one", COLOURED, "run(0); run(1); run(3); washes() = 6; runAt(0) = 0; runAt(1) = 2; runAt(2) = 1");
    }

    private static void run() {
        BOOK.open("Promise 40");
        BOOK.holds("Lets a run wait", COLOURED, "run(2) = 1; washes() = 2; runAt(0) = 0; start() = 2");
        BOOK.holds("`colourway`: the colourway",
            COLOURED, "colourway(1);".repeat(4),
            "run(7) = 1; washes() = 0; start() = 7; run(8) = throws.IndexOutOfBoundsException; run(0) = 1; start() = 0");
        BOOK.holds("Returns how many wait",
            COLOURED,
            "run(3) = 1; run(3) = 2; run(4) = throws.IndexOutOfBoundsException; run(0) = 3; start(); start(); run(1) = 2; run(1) = 3; run(1) = 4",
            "run(1) = 5; run(1) = 6");
        BOOK.refuses(Book.NONE_SUCH, "no such colourway", COLOURED, "run(4); run(-1); run(2147483647); run(-2147483648)");
        BOOK.refuses(Book.UNFIT, "it is not whole", NOT_WHOLE, "run(3)");
        BOOK.holds("or no set of cylinders makes it", COLOURED, "run(3) = 1; run(0) = 2");
        BOOK.refuses(Book.FULL, "if 6 wait", SIX_RUNS, "run(0); run(3)");
        BOOK.refuses(Book.NONE_SUCH, "Throws `IndexOutOfBoundsException`", SIX_RUNS, "run(4); run(-1)");
        BOOK.refuses(Book.UNFIT, "Throws `UnsupportedOperationException`", SIX_RUNS + "paint(0, 1, 0, 1, 1, 3)", "run(0); run(2)");
    }

    private static void washes() {
        BOOK.open("Promise 41");
        BOOK.holds("Returns what the best order of runs costs",
            COLOURED, "run(3); washes() = 0; run(0); washes() = 2; run(1); washes() = 6; run(2); washes() = 6; run(2); washes() = 6; washes() = 6");
        BOOK.holds("Returns the cost", nested(), "run(0); washes() = 5; run(5); washes() = 5; start() = 5; washes() = 5");
        BOOK.holds("0 without runs", "washes() = 0;", COLOURED, "washes() = 0; run(0); start(); washes() = 0");
    }

    private static void runAt() {
        BOOK.open("Promise 42");
        BOOK.holds("Returns a run of the best order", COLOURED, "run(1); run(3); runAt(0) = 1; runAt(1) = 0; runAt(0) = 1; washes() = 2");
        BOOK.holds("`place`: the place, from 0",
            COLOURED,
            "run(0); runAt(0) = 0; runAt(1) = throws.NoSuchElementException; runAt(-1) = throws.NoSuchElementException; run(0); runAt(1) = 1");
        BOOK.holds("Returns its number, as they were told, from 0",
            COLOURED, "run(2); run(3); run(1); runAt(0) = 1; runAt(1) = 0; runAt(2) = 2; start() = 3; runAt(0) = 0; runAt(1) = 1");
        BOOK.refuses(Book.MISSING, "if there is none", "", "runAt(0); runAt(-1)");
        BOOK.refuses(Book.MISSING, "if there is none", COLOURED + "run(0); run(1)", "runAt(2); runAt(-1); runAt(2147483647); runAt(-2147483648)");
        BOOK.refuses(Book.MISSING, "if there is none", SIX_RUNS, "runAt(6); runAt(-1)");
        BOOK.refuses(Book.MISSING, "if there is none", COLOURED + "run(0); start()", "runAt(0)");
    }

    private static void start() {
        BOOK.open("Promise 43");
        BOOK.holds("Takes the first run of the best order away",
            COLOURED, "run(0); run(3); start() = 3; washes() = 2; run(1) = 2; start() = 0; washes() = 2; start() = 1; washes() = 0");
        BOOK.holds("those behind it move up",
            COLOURED,
            "run(1); run(3); run(0); runAt(0) = 0; runAt(1) = 1; runAt(2) = 2; start() = 1; runAt(0) = 0; runAt(1) = 1",
            "runAt(2) = throws.NoSuchElementException; start() = 3; runAt(0) = 0; start() = 0");
        BOOK.holds("those behind it move up",
            nested(),
            "run(3); run(5); run(0); run(4); run(1); run(2); start() = 5; runAt(0) = 2; runAt(1) = 0; runAt(2) = 4; runAt(3) = 3; runAt(4) = 1",
            "start() = 4; runAt(0) = 0; runAt(1) = 3; runAt(2) = 2; runAt(3) = 1",
            "start() = 3; start() = 2; start() = 1; start() = 0; start() = throws.NoSuchElementException");
        BOOK.holds("Returns its colourway",
            COLOURED, "run(2); start() = 2; run(0); run(0); run(0); start() = 0; start() = 0; start() = 0; run(3); start() = 3");
        BOOK.refuses(Book.MISSING, "if none waits", "", "start()");
        BOOK.refuses(Book.MISSING, "if none waits", COLOURED + "run(0); start()", "start()");
    }
}
