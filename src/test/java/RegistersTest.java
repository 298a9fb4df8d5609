/** "Registers" and the promises 19 to 27: slips, spreads, what is bare or stained, rollers and streaks. */
public final class RegistersTest {
    private static final Book BOOK = new Book("RegistersTest");
    /** One cell of the colour 1, printed by the ink 1; the ink 0 is no cylinder. */
    private static final String DOT = "motif(5, 5, 's'); ink(90, 90, 90); ink(40, 40, 40); colourway(0); paint(0, 0, 0, 1, 1, 1); dye(0, 1, 1);";
    /** The colour 1 at 0, 0 by the ink 0, the colour 2 at 3, 0 by the ink 1. */
    private static final String TWO_DOTS = "motif(7, 7, 's'); ink(90, 90, 90); ink(70, 70, 70); colourway(0); paint(0, 0, 0, 1, 1, 1);"
        + "paint(0, 3, 0, 1, 1, 2); dye(0, 1, 0); dye(0, 2, 1);";
    /** The colours 1 and 2 at 0, 0 and 2, 0 by the inks 0 and 1, the colour 3 at 0, 2 by both of them. */
    private static final String PAIR = "motif(4, 4, 's'); ink(80, 80, 80); ink(50, 50, 50); ink(40, 40, 40); colourway(0);"
        + "paint(0, 0, 0, 1, 1, 1); paint(0, 2, 0, 1, 1, 2); paint(0, 0, 2, 1, 1, 3); dye(0, 1, 0); dye(0, 2, 1); dye(0, 3, 2);";
    private static final String NOT_WHOLE = DOT + "slip(0, 1, 1, 1); spread(0, 1, true); paint(0, 2, 2, 1, 1, 2);";
    private static final String EIGHT_DOTS = "motif(5, 5, 's'); ink(90, 90, 90); paint(0, 0, 0, 1, 1, 1);" + "colourway(0);".repeat(8)
        + "dye(0, 1, 0); dye(7, 1, 0);";
    private static final String TEN_STREAKS =
        "streak(0); streak(1); streak(2); streak(3); streak(4); streak(5); streak(6); streak(7); streak(8); streak(9);";
    private static final String NO_COLOURWAY = "if there is no such colourway";

    private RegistersTest() {
    }

    public static void main(String[] args) {
        slips();
        printing();
        around();
        bareAndStainedOfTerms();
        rollersOfTerms();
        streaksOfTerms();
        slip();
        slipRefused();
        spread();
        bare();
        stained();
        roller();
        fits();
        streak();
        wipe();
        culprit();
        BOOK.end();
    }

    private static void slips() {
        BOOK.open("Registers");
        BOOK.holds("-3 to 3 along and up",
            DOT, "slip(0, 1, 3, 3) = 33; slip(0, 1, -3, -3) = 66; slip(0, 1, 3, -3) = 0; slip(0, 1, -3, 3) = 60; slip(0, 1, 0, 0) = 6");
        BOOK.refuses(Book.WRONG, "-3 to 3 along and up", DOT, "slip(0, 1, 4, 0); slip(0, 1, -4, 0); slip(0, 1, 0, 4); slip(0, 1, 0, -4)");
        BOOK.holds("none at first", DOT, "bare(0) = 0; stained(0) = 0; slip(0, 1, 0, 0) = 33; spread(0, 1, false) = false");
        BOOK.holds("Each cylinder of a colourway has a slip",
            PAIR,
            "slip(0, 0, 1, 2); slip(0, 1, 2, 1); slip(0, 0, 0, 0) = 45; slip(0, 1, 0, 0) = 54",
            "slip(0, 2, 0, 0) = throws.UnsupportedOperationException");
        BOOK.holds("Each cylinder of a colourway has a slip",
            EIGHT_DOTS,
            "slip(0, 0, 1, 2) = 33; spread(0, 0, true) = false; slip(7, 0, 0, 0) = 33; spread(7, 0, false) = false; slip(0, 0, 0, 0) = 45",
            "spread(0, 0, false) = true");
        BOOK.holds("and can be spread",
            PAIR, "spread(0, 0, true) = false; spread(0, 1, false) = false; spread(0, 0, false) = true; spread(0, 1, true) = false");
        BOOK.holds("both stay with the ink as the motif is painted",
            DOT,
            "slip(0, 1, 1, -1); spread(0, 1, true); paint(0, 0, 0, 5, 5, 0); cylinders(0) = 0",
            "slip(0, 1, 0, 0) = throws.UnsupportedOperationException",
            "spread(0, 1, false) = throws.UnsupportedOperationException; paint(0, 3, 3, 1, 1, 1); spread(0, 1, true) = true",
            "slip(0, 1, 1, -1) = 42; bare(0) = 1; stained(0) = 5");
        BOOK.holds("both stay with the ink as the motif is painted",
            PAIR, "slip(0, 1, 1, 0); paint(0, 2, 0, 1, 1, 0); cylinders(0) = 3; paint(0, 0, 2, 1, 1, 1); cylinders(0) = 1; bare(0) = 0",
            "paint(0, 3, 3, 1, 1, 2); cylinders(0) = 3; bare(0) = 1; slip(0, 1, 0, 0) = 43");
    }

    private static void printing() {
        BOOK.holds("the place moved by its slip",
            TWO_DOTS,
            "slip(0, 0, 1, 0); slip(0, 1, -2, 0); stained(0) = 1; bare(0) = 2; slip(0, 1, 2, 0); stained(0) = 2; slip(0, 0, -2, 0)",
            "slip(0, 1, -3, 0); stained(0) = 2; slip(0, 1, 2, 0); stained(0) = 1");
        BOOK.holds("the place moved by its slip",
            TWO_DOTS.replace("3, 0, 1, 1, 2", "0, 3, 1, 1, 2"),
            "slip(0, 0, 0, 1); slip(0, 1, 0, -2); stained(0) = 1; slip(0, 0, 0, -1); slip(0, 1, 0, 2); stained(0) = 2; slip(0, 0, 1, 0)",
            "slip(0, 1, -2, 0); stained(0) = 2");
        BOOK.holds("the place moved by its slip",
            TWO_DOTS, "slip(0, 0, 3, 0); slip(0, 1, -3, 0); stained(0) = 2; bare(0) = 2; slip(0, 1, 0, 0); stained(0) = 1; bare(0) = 1");
        BOOK.holds("for each place whose colour needs it",
            DOT, "paint(0, 0, 0, 3, 1, 1); slip(0, 1, 1, 0); bare(0) = 1; stained(0) = 1; slip(0, 1, 0, 1); bare(0) = 3; stained(0) = 3");
        BOOK.holds("for each place whose colour needs it",
            PAIR, "slip(0, 1, 0, 1); bare(0) = 2; stained(0) = 2; spread(0, 0, true); bare(0) = 2; stained(0) = 7");
        BOOK.holds("if it is spread, the four beside and above and below that",
            DOT, "spread(0, 1, true); stained(0) = 4; bare(0) = 0; spread(0, 1, false); stained(0) = 0");
        BOOK.holds("if it is spread, the four beside and above and below that",
            DOT,
            "spread(0, 1, true); slip(0, 1, 1, 0); bare(0) = 0; stained(0) = 4; slip(0, 1, -1, 0); bare(0) = 0; slip(0, 1, 0, 1); bare(0) = 0",
            "slip(0, 1, 0, -1); bare(0) = 0; stained(0) = 4");
        BOOK.holds("if it is spread, the four beside and above and below that",
            DOT,
            "spread(0, 1, true); slip(0, 1, 1, 1); bare(0) = 1; stained(0) = 5; slip(0, 1, -1, 1); bare(0) = 1; slip(0, 1, 2, 0); bare(0) = 1",
            "slip(0, 1, 0, -2); bare(0) = 1; stained(0) = 5");
    }

    private static void around() {
        BOOK.holds("All is taken around the period",
            DOT,
            "paint(0, 4, 4, 1, 1, 1); slip(0, 1, 1, 1); bare(0) = 1; stained(0) = 1; slip(0, 1, -1, -1); bare(0) = 1; stained(0) = 1",
            "slip(0, 1, -1, 1); bare(0) = 2; stained(0) = 2");
        BOOK.holds("All is taken around the period",
            DOT, "paint(0, 4, 0, 1, 1, 1); paint(0, 0, 4, 1, 1, 1); spread(0, 1, true); bare(0) = 0; stained(0) = 7");
        BOOK.holds("All is taken around the period",
            DOT.replace("5, 5, 's'", "3, 3, 's'"), "slip(0, 1, 3, -3); bare(0) = 0; stained(0) = 0; slip(0, 1, 3, 2); bare(0) = 1; stained(0) = 1");
        BOOK.holds("All is taken around the period",
            DOT.replace("5, 5, 's'", "2, 2, 's'"),
            "slip(0, 1, 2, -2); bare(0) = 0; slip(0, 1, 3, 0); bare(0) = 1; slip(0, 1, 0, 0); spread(0, 1, true); stained(0) = 2");
        BOOK.holds("All is taken around the period",
            DOT.replace("5, 5, 's'", "2, 2, 'd'"),
            "slip(0, 1, 2, 1); bare(0) = 0; stained(0) = 0; slip(0, 1, 2, 0); bare(0) = 2; stained(0) = 2; slip(0, 1, 0, 2); bare(0) = 0");
        BOOK.holds("All is taken around the period",
            DOT.replace("5, 5, 's'", "2, 2, 't'"),
            "slip(0, 1, 2, 2); bare(0) = 0; slip(0, 1, 2, 0); bare(0) = 4; stained(0) = 4; slip(0, 1, -1, 1); bare(0) = 0; stained(0) = 0");
    }

    private static void bareAndStainedOfTerms() {
        BOOK.holds("A place is bare if a cylinder that its colour needs does not print it",
            PAIR, "slip(0, 0, 1, 0); bare(0) = 2; slip(0, 1, 1, 0); bare(0) = 3; slip(0, 0, 0, 0); bare(0) = 2; slip(0, 1, 0, 0); bare(0) = 0");
        BOOK.holds("stained if one prints it that its colour does not need",
            PAIR,
            "slip(0, 0, 1, 0); stained(0) = 2; slip(0, 1, 1, 0); stained(0) = 3; slip(0, 0, 2, 0); slip(0, 1, 0, 1); bare(0) = 3; stained(0) = 4");
        BOOK.holds("stained if one prints it that its colour does not need",
            PAIR,
            "slip(0, 1, -2, 0); stained(0) = 2; bare(0) = 2; slip(0, 1, -2, 2); stained(0) = 0; bare(0) = 0; slip(0, 1, 2, 1); stained(0) = 2",
            "bare(0) = 2");
        BOOK.holds("stained if one prints it that its colour does not need", "motif(2, 2, 's'); colourway(0); bare(0) = 0; stained(0) = 0");
    }

    private static void rollersOfTerms() {
        BOOK.holds("Rollers, at most 6, are numbered from 0",
            "roller(2) = 0; roller(2) = 1; roller(2) = 2; roller(2) = 3; roller(2) = 4; roller(2) = 5; roller(2) = throws.IllegalStateException",
            "motif(2, 2, 's'); fits(0, 5) = true; fits(0, 6) = throws.IndexOutOfBoundsException");
        BOOK.holds("each of a circumference, 2 to 200",
            "roller(2) = 0; roller(200) = 1; roller(1) = throws.IllegalArgumentException; roller(201) = throws.IllegalArgumentException",
            "motif(2, 8, 's'); fits(0, 0) = false; fits(0, 1) = true");
        BOOK.holds("if this can be divided by the height of its period",
            "motif(2, 6, 's'); motif(2, 6, 'd'); motif(2, 6, 't'); roller(6); roller(12); roller(18); roller(3); fits(0, 0) = true",
            "fits(1, 0) = true; fits(2, 0) = false",
            "fits(0, 1) = true; fits(1, 1) = true; fits(2, 1) = true; fits(0, 2) = true; fits(1, 2) = true; fits(2, 2) = false",
            "fits(0, 3) = false; fits(1, 3) = false; fits(2, 3) = false");
    }

    private static void streaksOfTerms() {
        BOOK.holds("Streaks, at most 10 places, are typed",
            TEN_STREAKS.replace("streak(9);", ""), "streak(9) = 10; streak(10) = throws.IllegalStateException; wipe() = 10");
        BOOK.holds("each greater than the one ahead",
            "streak(7) = 1; streak(8) = 2; streak(8) = throws.IllegalArgumentException; streak(7) = throws.IllegalArgumentException",
            "streak(10) = 3; streak(9) = throws.IllegalArgumentException");
        BOOK.holds("whose circumference divides all of the differences of those that follow each other",
            "roller(20); roller(30); streak(3); streak(63); culprit() = 1; streak(103); culprit() = 0; streak(163); culprit() = 0; streak(164)",
            "culprit() = throws.NoSuchElementException");
        BOOK.holds("whose circumference divides all of the differences of those that follow each other",
            "roller(60); roller(50); streak(0); streak(50); culprit() = 1; streak(60); culprit() = throws.NoSuchElementException");
        BOOK.holds("all of the differences of those that follow each other",
            "roller(2); streak(0); streak(2); streak(4); streak(6); streak(8); streak(10); streak(12); streak(14); streak(16); culprit() = 0",
            "streak(19); culprit() = throws.NoSuchElementException");
        BOOK.holds("of several the greatest, then the lowest",
            "roller(5); roller(10); roller(20); roller(20); roller(7); roller(10); streak(1); streak(41); culprit() = 2; streak(51)",
            "culprit() = 1; streak(56); culprit() = 0");
    }

    private static void slip() {
        BOOK.open("Promise 19");
        BOOK.holds("Sets the slip of a cylinder",
            DOT, "slip(0, 1, 3, 3) = 33; bare(0) = 1; stained(0) = 1; slip(0, 1, 2, 1) = 66; slip(0, 1, 0, 0) = 54; bare(0) = 0");
        BOOK.holds("`colourway`: the colourway", EIGHT_DOTS, "slip(7, 0, 1, 0) = 33; bare(7) = 1; bare(0) = 0");
        BOOK.holds("`ink`: the ink", PAIR, "slip(0, 0, 1, 0) = 33; slip(0, 1, 0, 1) = 33; slip(0, 0, 0, 0) = 43; slip(0, 1, 0, 0) = 34");
        BOOK.holds("`along`: -3 to 3",
            DOT,
            "slip(0, 1, -3, 0) = 33; slip(0, 1, 3, 0) = 3; slip(0, 1, -4, 0) = throws.IllegalArgumentException",
            "slip(0, 1, 4, 0) = throws.IllegalArgumentException; slip(0, 1, 0, 0) = 63");
        BOOK.holds("`up`: -3 to 3",
            DOT,
            "slip(0, 1, 0, -3) = 33; slip(0, 1, 0, 3) = 30; slip(0, 1, 0, -4) = throws.IllegalArgumentException",
            "slip(0, 1, 0, 4) = throws.IllegalArgumentException; slip(0, 1, 0, 0) = 36");
        BOOK.holds("Returns 10 times the one before along, and 3 more, plus the one up, and 3 more",
            DOT,
            "slip(0, 1, -3, -3) = 33; slip(0, 1, -3, 3) = 0; slip(0, 1, 3, -3) = 6; slip(0, 1, 3, 3) = 60; slip(0, 1, -1, 2) = 66",
            "slip(0, 1, -1, 2) = 25; slip(0, 1, 0, 0) = 25");
        BOOK.holds("33 for none", DOT, "slip(0, 1, 0, 0) = 33; slip(0, 1, 1, 1) = 33; slip(0, 1, 0, 0) = 44; slip(0, 1, 0, 0) = 33");
    }

    private static void slipRefused() {
        BOOK.refuses(Book.NONE_SUCH, NO_COLOURWAY, DOT, "slip(1, 1, 0, 0); slip(-1, 1, 0, 0); slip(2147483647, 1, 0, 0); slip(-2147483648, 1, 0, 0)");
        BOOK.refuses(Book.WRONG, "a number is out of range",
            DOT, "slip(0, 1, 2147483647, 0); slip(0, 1, -2147483648, 0); slip(0, 1, 0, 2147483647); slip(0, 1, 0, -2147483648)");
        BOOK.refuses(Book.UNFIT, "it is not whole", NOT_WHOLE, "slip(0, 1, 0, 0)");
        BOOK.holds("no set of cylinders makes it", DOT, "slip(0, 1, 0, 0) = 33");
        BOOK.refuses(Book.UNFIT, "the ink is not among them",
            DOT,
            "slip(0, 0, 1, 1); slip(0, 2, 1, 1); slip(0, -1, 1, 1); slip(0, 10, 0, 0); slip(0, 32, 0, 0); slip(0, 33, 1, 1); slip(0, -31, 1, 1);"
                + "slip(0, 2147483647, 0, 0); slip(0, -2147483648, 0, 0)");
        BOOK.refuses(Book.UNFIT, "the ink is not among them", PAIR, "slip(0, 2, 1, 1)");
        BOOK.refuses(Book.UNFIT, "the ink is not among them", DOT + "dye(0, 2, 0)", "slip(0, 0, 1, 1)");
        BOOK.refuses(Book.UNFIT, "the ink is not among them", "motif(2, 2, 's'); colourway(0)", "slip(0, 0, 0, 0)");
        BOOK.refuses(Book.NONE_SUCH, "Throws `IndexOutOfBoundsException`", DOT, "slip(1, 1, 4, 0); slip(-1, 1, 0, -4); slip(1, 0, 0, 0)");
        BOOK.refuses(Book.WRONG, "Throws `IllegalArgumentException`", DOT, "slip(0, 0, 4, 0); slip(0, 2, 0, -4); slip(0, -1, -4, 4)");
        BOOK.refuses(Book.WRONG, "Throws `IllegalArgumentException`", NOT_WHOLE, "slip(0, 1, 4, 0); slip(0, 1, 0, -4)");
    }

    private static void spread() {
        BOOK.open("Promise 20");
        BOOK.holds("Tells whether a cylinder is spread",
            DOT, "spread(0, 1, true) = false; stained(0) = 4; spread(0, 1, false) = true; stained(0) = 0");
        BOOK.holds("`colourway`: the colourway", EIGHT_DOTS, "spread(7, 0, true) = false; stained(7) = 4; stained(0) = 0");
        BOOK.holds("`ink`: the ink", PAIR, "spread(0, 1, true) = false; spread(0, 0, false) = false; spread(0, 1, false) = true");
        BOOK.holds("`is`: whether it is",
            DOT, "spread(0, 1, false) = false; spread(0, 1, true) = false; spread(0, 1, true) = true; stained(0) = 4; spread(0, 1, false) = true");
        BOOK.holds("Returns whether it was",
            DOT, "spread(0, 1, true) = false; spread(0, 1, true) = true; spread(0, 1, false) = true; spread(0, 1, false) = false");
        BOOK.refuses(Book.NONE_SUCH, NO_COLOURWAY, DOT, "spread(1, 1, true); spread(-1, 1, true); spread(2147483647, 1, true); spread(1, 7, false)");
        BOOK.refuses(Book.UNFIT, "it is not whole", NOT_WHOLE, "spread(0, 1, false); spread(0, 1, true)");
        BOOK.holds("no set of cylinders makes it", DOT, "spread(0, 1, true) = false");
        BOOK.refuses(Book.UNFIT, "the ink is not among them",
            DOT,
            "spread(0, 0, true); spread(0, 2, true); spread(0, -1, true); spread(0, 10, true); spread(0, 33, true); spread(0, -31, true);"
                + "spread(0, 2147483647, false); spread(0, -2147483648, true)");
        BOOK.refuses(Book.UNFIT, "the ink is not among them", PAIR, "spread(0, 2, true)");
        BOOK.refuses(Book.UNFIT, "the ink is not among them", DOT + "dye(0, 2, 0)", "spread(0, 0, true)");
    }

    private static void bare() {
        BOOK.open("Promise 21");
        BOOK.holds("Returns how many places of the period are bare", DOT.replace("5, 5, 's'", "5, 4, 'd'"), "slip(0, 1, 1, 0); bare(0) = 2");
        BOOK.holds("Returns how many places of the period are bare", DOT.replace("5, 5, 's'", "5, 4, 't'"), "slip(0, 1, 1, 0); bare(0) = 4");
        BOOK.holds("`colourway`: the colourway",
            EIGHT_DOTS, "slip(7, 0, 1, 0); bare(7) = 1; bare(0) = 0; bare(6) = throws.UnsupportedOperationException");
        BOOK.holds("Returns how many.",
            DOT.replace("5, 5, 's'", "12, 12, 't'"), "bare(0) = 0; paint(0, 0, 0, 12, 12, 1); slip(0, 1, 1, 1); bare(0) = 0; " + stripes(1),
            "cylinders(0) = 2; slip(0, 1, 1, 0); bare(0) = 264");
        BOOK.refuses(Book.NONE_SUCH, NO_COLOURWAY, NOT_WHOLE, "bare(1); bare(-1); bare(2147483647); bare(-2147483648)");
        BOOK.refuses(Book.UNFIT, "it is not whole", NOT_WHOLE, "bare(0)");
        BOOK.holds("or no set of cylinders makes it", DOT, "bare(0) = 0");
    }

    private static void stained() {
        BOOK.open("Promise 22");
        BOOK.holds("Returns how many places of the period are stained",
            DOT.replace("5, 5, 's'", "5, 4, 'd'"), "slip(0, 1, 1, 0); stained(0) = 2; spread(0, 1, true); stained(0) = 8");
        BOOK.holds("Returns how many places of the period are stained",
            DOT.replace("5, 5, 's'", "5, 4, 't'"), "slip(0, 1, 2, 0); stained(0) = 4; slip(0, 1, -1, 0); stained(0) = 4");
        BOOK.holds("`colourway`: the colourway",
            EIGHT_DOTS, "spread(7, 0, true); stained(7) = 4; stained(0) = 0; stained(6) = throws.UnsupportedOperationException");
        BOOK.holds("Returns how many.",
            DOT.replace("5, 5, 's'", "12, 12, 't'"), "stained(0) = 0; paint(0, 0, 0, 12, 12, 1); spread(0, 1, true); stained(0) = 0; " + stripes(1),
            "stained(0) = 288; slip(0, 1, 1, 0); stained(0) = 288");
        BOOK.refuses(Book.NONE_SUCH, NO_COLOURWAY, NOT_WHOLE, "stained(1); stained(-1); stained(2147483647); stained(-2147483648)");
        BOOK.refuses(Book.UNFIT, "it is not whole", NOT_WHOLE, "stained(0)");
        BOOK.holds("or no set of cylinders makes it", DOT, "stained(0) = 0");
    }

    /** Every second column of a motif of 12 by 12 is of the ground. */
    private static String stripes(int first) {
        StringBuilder paints = new StringBuilder();
        for (int x = first; x < 12; x += 2) {
            paints.append("paint(0, ").append(x).append(", 0, 1, 12, 0);");
        }
        return paints.toString();
    }

    private static void roller() {
        BOOK.open("Promise 23");
        BOOK.holds("Adds a roller", "motif(2, 5, 's'); roller(10) = 0; fits(0, 0) = true; roller(11) = 1; fits(0, 1) = false");
        BOOK.holds("`circumference`: 2 to 200",
            "roller(2) = 0; roller(200) = 1; roller(1) = throws.IllegalArgumentException; roller(201) = throws.IllegalArgumentException",
            "streak(0); streak(2); culprit() = 0; wipe(); streak(0); streak(200); culprit() = 1");
        BOOK.holds("Returns its number",
            "roller(7) = 0; roller(7) = 1; roller(1) = throws.IllegalArgumentException; roller(100) = 2; roller(3) = 3; roller(2) = 4",
            "roller(200) = 5");
        BOOK.refuses(Book.WRONG, "it is out of range", "roller(5)", "roller(0); roller(-2); roller(2147483647); roller(-2147483648)");
        BOOK.refuses(Book.FULL, "if there are 6", "roller(5);".repeat(6), "roller(5); roller(2); roller(200)");
        BOOK.refuses(Book.WRONG, "Throws `IllegalArgumentException`", "roller(5);".repeat(6), "roller(1); roller(201)");
    }

    private static void fits() {
        BOOK.open("Promise 24");
        BOOK.holds("Returns whether a motif fits a roller",
            "motif(2, 12, 't'); roller(24); roller(192); roller(200); roller(12); fits(0, 0) = true; fits(0, 1) = true; fits(0, 2) = false",
            "fits(0, 3) = false");
        BOOK.holds("`motif`: the motif",
            "motif(2, 2, 's');".repeat(5),
            "motif(2, 3, 's'); roller(4); roller(9); fits(0, 0) = true; fits(5, 0) = false; fits(5, 1) = true; fits(4, 1) = false");
        BOOK.holds("`roller`: the roller",
            "motif(2, 7, 's');", "roller(2);".repeat(5), "roller(7); fits(0, 0) = false; fits(0, 5) = true; fits(0, 4) = false");
        BOOK.holds("Returns true if so",
            "motif(2, 2, 's'); roller(2); roller(3); roller(200); roller(199); fits(0, 0) = true; fits(0, 1) = false; fits(0, 2) = true",
            "fits(0, 3) = false");
        BOOK.refuses(Book.NONE_SUCH, "no such motif or roller",
            "motif(2, 2, 's'); roller(2); roller(4)",
            "fits(1, 0); fits(-1, 0); fits(0, 2); fits(0, -1); fits(1, 2); fits(2147483647, 0); fits(0, 2147483647); fits(-2147483648, -2147483648)");
    }

    private static void streak() {
        BOOK.open("Promise 25");
        BOOK.holds("Types the place of a streak", "roller(30); streak(5) = 1; streak(35) = 2; culprit() = 0");
        BOOK.holds("`place`: the place, 0 to 99999",
            "streak(0) = 1; streak(99999) = 2; wipe() = 2; streak(99999) = 1; streak(-1) = throws.IllegalArgumentException",
            "streak(100000) = throws.IllegalArgumentException");
        BOOK.holds("Returns how many there are",
            "streak(0) = 1; streak(1) = 2; streak(1) = throws.IllegalArgumentException; streak(2) = 3; streak(3) = 4; streak(4) = 5",
            "streak(5) = 6; streak(6) = 7; streak(7) = 8; streak(8) = 9; streak(9) = 10; wipe(); streak(0) = 1");
        BOOK.refuses(Book.WRONG, "it is out of range", "", "streak(-1); streak(100000); streak(2147483647); streak(-2147483648)");
        BOOK.refuses(Book.WRONG, "or not greater than the one ahead", "streak(6); streak(8)", "streak(8); streak(7); streak(6); streak(0)");
        BOOK.refuses(Book.WRONG, "or not greater than the one ahead", "streak(0)", "streak(0)");
        BOOK.refuses(Book.FULL, "if there are 10", TEN_STREAKS, "streak(10); streak(99999)");
        BOOK.refuses(Book.WRONG, "Throws `IllegalArgumentException`", TEN_STREAKS, "streak(9); streak(0); streak(-1); streak(100000)");
    }

    private static void wipe() {
        BOOK.open("Promise 26");
        BOOK.holds("Takes what is typed away",
            "roller(10); streak(50); streak(60); culprit() = 0; wipe() = 2; culprit() = throws.UnsupportedOperationException; streak(1) = 1",
            "culprit() = throws.UnsupportedOperationException; streak(11) = 2; culprit() = 0");
        BOOK.holds("Returns how many there were",
            "wipe() = 0; streak(9); wipe() = 1; wipe() = 0;", TEN_STREAKS, "wipe() = 10; wipe() = 0; streak(0) = 1");
    }

    private static void culprit() {
        BOOK.open("Promise 27");
        BOOK.holds("Returns the roller that makes the streaks",
            "roller(7); roller(15); streak(3); streak(33); culprit() = 1; wipe(); streak(1); streak(15); culprit() = 0");
        BOOK.holds("Returns the roller.",
            "roller(2);".repeat(5), "roller(200); streak(0); streak(200); streak(99800); culprit() = 5; streak(99802); culprit() = 0");
        BOOK.refuses(Book.UNFIT, "fewer than two are typed", "roller(2)", "culprit()");
        BOOK.refuses(Book.UNFIT, "fewer than two are typed", "roller(2); streak(2)", "culprit()");
        BOOK.refuses(Book.UNFIT, "fewer than two are typed", "roller(2); streak(0); streak(2); wipe(); streak(4)", "culprit()");
        BOOK.refuses(Book.MISSING, "if there is none", "streak(0); streak(2)", "culprit()");
        BOOK.refuses(Book.MISSING, "if there is none", "roller(2); roller(200); streak(0); streak(1)", "culprit()");
        BOOK.refuses(Book.MISSING, "if there is none", "roller(7); roller(9); roller(8); streak(1); streak(505); streak(506)", "culprit()");
        BOOK.refuses(Book.UNFIT, "Throws `UnsupportedOperationException`", "", "culprit()");
        BOOK.refuses(Book.UNFIT, "Throws `UnsupportedOperationException`", "streak(4)", "culprit()");
    }
}
