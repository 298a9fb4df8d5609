/** "Inks" and the promises 10 to 18: inks, colourways, cylinders, contrast and false twins. */
public final class InksTest {
    private static final Book BOOK = new Book("InksTest");
    private static final String TEN_INKS = "ink(1, 1, 1);".repeat(10);
    private static final String EIGHT_COLOURWAYS = "motif(2, 2, 's');" + "colourway(0);".repeat(8);
    /** A motif of 4 by 3 with a cell of each colour from 1 to 7, the colours 1 to 4 in the lowest row, and its colourway 0. */
    private static final String SEVEN_COLOURS = "motif(4, 3, 's'); colourway(0);"
        + "paint(0, 0, 0, 1, 1, 1); paint(0, 1, 0, 1, 1, 2); paint(0, 2, 0, 1, 1, 3); paint(0, 3, 0, 1, 1, 4); paint(0, 0, 1, 1, 1, 5);"
        + "paint(0, 1, 1, 1, 1, 6); paint(0, 2, 1, 1, 1, 7);";
    /** A motif of 4 by 3 whose colourway 0 has the colours 1 and 2, apart, to be dyed. */
    private static final String TWO_COLOURS = "motif(4, 3, 's'); colourway(0); paint(0, 0, 0, 1, 1, 1); paint(0, 2, 1, 1, 1, 2);";
    private static final String THREE_COLOURS = TWO_COLOURS + "paint(0, 0, 2, 1, 1, 3);";
    private static final String NOT_WHOLE = "ink(10, 20, 30);" + TWO_COLOURS + "dye(0, 1, 0);";
    private static final String NO_COLOURWAY = "if there is no such colourway";

    private InksTest() {
    }

    public static void main(String[] args) {
        inks();
        colourways();
        cylindersOfTerms();
        fewestOfTerms();
        pairsOfTerms();
        contrastOfTerms();
        twinsOfTerms();
        ink();
        over();
        colourway();
        dye();
        dyeRefused();
        isWhole();
        cylinders();
        made();
        contrast();
        falseTwins();
        BOOK.end();
    }

    private static String grey(int... lights) {
        StringBuilder inks = new StringBuilder();
        for (int light : lights) {
            inks.append("ink(L, L, L);".replace("L", String.valueOf(light)));
        }
        return inks.toString();
    }

    private static void inks() {
        BOOK.open("Inks");
        BOOK.holds("At most 10 inks are numbered from 0",
            "ink(1, 1, 1) = 0; ink(2, 1, 1) = 1; ink(3, 1, 1) = 2; ink(4, 1, 1) = 3; ink(5, 1, 1) = 4; ink(6, 1, 1) = 5; ink(7, 1, 1) = 6",
            "ink(8, 1, 1) = 7; ink(9, 1, 1) = 8; ink(100, 1, 1) = 9",
            "ink(1, 1, 1) = throws.IllegalStateException; over(9, 9, 0) = 100; over(8, 9, 0) = 9; over(10, 0, 0) = throws.IndexOutOfBoundsException");
        BOOK.holds("each with a lightness, 0 to 100, under each of three lamps",
            "ink(0, 50, 100) = 0; ink(100, 100, 100) = 1; over(0, 1, 0) = 0; over(0, 1, 1) = 50; over(0, 1, 2) = 100");
        BOOK.refuses(Book.WRONG, "a lightness, 0 to 100",
            "", "ink(-1, 0, 0); ink(101, 0, 0); ink(0, -1, 0); ink(0, 101, 0); ink(0, 0, -1); ink(0, 0, 101)");
        BOOK.holds("three lamps, 0 to 2",
            "ink(100, 30, 7); over(0, 0, 0) = 100; over(0, 0, 2) = 0; over(0, 0, 3) = throws.IndexOutOfBoundsException",
            "over(0, 0, -1) = throws.IndexOutOfBoundsException");
        BOOK.holds("the product of both divided by 100",
            "ink(100, 0, 10) ; ink(37, 100, 10); over(0, 1, 0) = 37; over(1, 0, 0) = 37; over(0, 1, 1) = 0; over(0, 1, 2) = 1",
            "over(0, 0, 0) = 100; over(0, 0, 1) = 0");
        BOOK.holds("divided by 100, cut",
            "ink(99, 11, 33); ink(99, 9, 50); over(0, 1, 0) = 98; over(0, 1, 1) = 0; over(0, 1, 2) = 16; over(1, 0, 2) = 16; over(0, 0, 2) = 10");
        BOOK.holds("under each lamp", "ink(80, 50, 20); ink(50, 40, 90); over(0, 1, 0) = 40; over(0, 1, 1) = 20; over(0, 1, 2) = 18");
    }

    private static void colourways() {
        BOOK.holds("At most 8 colourways are numbered from 0",
            "motif(2, 2, 's'); colourway(0) = 0; colourway(0) = 1; colourway(0) = 2; colourway(0) = 3; colourway(0) = 4; colourway(0) = 5",
            "colourway(0) = 6; colourway(0) = 7",
            "colourway(0) = throws.IllegalStateException; isWhole(7) = true; isWhole(8) = throws.IndexOutOfBoundsException");
        BOOK.holds("each of a motif",
            "motif(2, 2, 's'); motif(2, 2, 's'); colourway(0); colourway(1); paint(1, 0, 0, 1, 1, 1); isWhole(0) = true; isWhole(1) = false");
        BOOK.holds("each colour that some cell has",
            grey(10), TWO_COLOURS,
            "dye(0, 1, 0); isWhole(0) = false; dye(0, 2, 0); isWhole(0) = true; paint(0, 3, 2, 1, 1, 7); isWhole(0) = false",
            "paint(0, 3, 2, 1, 1, 2); isWhole(0) = true");
        BOOK.holds("not the ground, is told an ink",
            "motif(2, 2, 's'); colourway(0); isWhole(0) = true; ink(1, 1, 1); dye(0, 0, 0) = throws.IllegalArgumentException");
        BOOK.holds("not the ground, is told an ink",
            grey(10),
            "motif(2, 2, 's'); colourway(0); paint(0, 0, 0, 2, 2, 3); dye(0, 3, 0); isWhole(0) = true; paint(0, 0, 0, 1, 1, 0); isWhole(0) = true");
        BOOK.holds("it is whole if each of these has one",
            grey(10), SEVEN_COLOURS,
            "dye(0, 1, 0); dye(0, 2, 0); dye(0, 3, 0); dye(0, 5, 0); dye(0, 6, 0); dye(0, 7, 0); isWhole(0) = false; dye(0, 4, 0)",
            "isWhole(0) = true");
    }

    private static void cylindersOfTerms() {
        BOOK.holds("the ink of each colour that it has is among them",
            grey(90, 80, 70), TWO_COLOURS, "dye(0, 1, 2); dye(0, 2, 0); cylinders(0) = 5; dye(0, 2, 2); cylinders(0) = 4");
        BOOK.holds("the ink of each colour that it has is among them",
            grey(90, 80), TWO_COLOURS, "dye(0, 1, 1); dye(0, 2, 1); dye(0, 3, 0); cylinders(0) = 2; paint(0, 3, 2, 1, 1, 3); cylinders(0) = 3");
        BOOK.holds("or two unlike ones of them", grey(80, 50, 40), THREE_COLOURS, "dye(0, 1, 0); dye(0, 2, 1); dye(0, 3, 2); cylinders(0) = 3");
        BOOK.holds("or two unlike ones of them", grey(50, 25), TWO_COLOURS, "dye(0, 1, 0); dye(0, 2, 1); cylinders(0) = 3; made(0, 2) = 2");
        BOOK.holds("or two unlike ones of them",
            grey(50, 25, 50), THREE_COLOURS, "dye(0, 1, 0); dye(0, 2, 1); dye(0, 3, 2); cylinders(0) = 5; made(0, 2) = 5");
        BOOK.holds("of them, one over the other", grey(90, 80, 40, 50), TWO_COLOURS, "dye(0, 1, 0); dye(0, 2, 2); cylinders(0) = 5; made(0, 2) = 4");
        BOOK.holds("of them, one over the other",
            grey(80, 50, 40, 30), THREE_COLOURS, "dye(0, 1, 0); dye(0, 2, 2); dye(0, 3, 3); cylinders(0) = 11; made(0, 2) = 3");
        BOOK.holds("have its lightness under all lamps",
            grey(80, 50), "ink(41, 40, 40);", THREE_COLOURS, "dye(0, 1, 0); dye(0, 2, 1); dye(0, 3, 2); cylinders(0) = 7");
        BOOK.holds("have its lightness under all lamps",
            grey(80, 50), "ink(40, 41, 40);", THREE_COLOURS, "dye(0, 1, 0); dye(0, 2, 1); dye(0, 3, 2); cylinders(0) = 7");
        BOOK.holds("have its lightness under all lamps",
            grey(80, 50), "ink(40, 40, 39);", THREE_COLOURS, "dye(0, 1, 0); dye(0, 2, 1); dye(0, 3, 2); cylinders(0) = 7");
        BOOK.holds("have its lightness under all lamps",
            "ink(80, 90, 100); ink(50, 50, 33); ink(40, 45, 33);", THREE_COLOURS, "dye(0, 1, 0); dye(0, 2, 1); dye(0, 3, 2); cylinders(0) = 3");
        BOOK.holds("have its lightness", grey(99, 50, 49), THREE_COLOURS, "dye(0, 1, 0); dye(0, 2, 1); dye(0, 3, 2); cylinders(0) = 3");
        BOOK.holds("have its lightness", grey(9, 11, 0), THREE_COLOURS, "dye(0, 1, 0); dye(0, 2, 1); dye(0, 3, 2); cylinders(0) = 3");
    }

    private static void fewestOfTerms() {
        BOOK.holds("The fewest are taken", grey(80, 50, 40), TWO_COLOURS, "dye(0, 1, 2); dye(0, 2, 2); cylinders(0) = 4; made(0, 1) = 4");
        BOOK.holds("The fewest are taken", grey(80, 50, 40), TWO_COLOURS, "paint(0, 0, 0, 4, 3, 0); cylinders(0) = 0");
        BOOK.holds("The fewest are taken",
            grey(80, 50, 40, 20, 32), SEVEN_COLOURS,
            "dye(0, 1, 0); dye(0, 2, 1); dye(0, 3, 2); dye(0, 4, 0); dye(0, 5, 1); dye(0, 6, 3); dye(0, 7, 4); cylinders(0) = 7; made(0, 6) = 6",
            "made(0, 7) = 5");
        BOOK.holds("of several sets the one with the least sum of 2 to the power of the numbers",
            grey(60, 30, 30, 50), TWO_COLOURS, "dye(0, 1, 1); dye(0, 2, 2); cylinders(0) = 6");
        BOOK.holds("of several sets the one with the least sum of 2 to the power of the numbers",
            grey(30, 60, 50, 30), TWO_COLOURS, "dye(0, 1, 0); dye(0, 2, 3); cylinders(0) = 6; made(0, 1) = 6; made(0, 2) = 6");
        BOOK.holds("of several sets the one with the least sum of 2 to the power of the numbers",
            grey(100, 30, 30), TWO_COLOURS, "dye(0, 1, 1); dye(0, 2, 2); cylinders(0) = 3; made(0, 1) = 2; made(0, 2) = 3");
        BOOK.holds("of several sets the one with the least sum of 2 to the power of the numbers",
            grey(0, 0, 50), TWO_COLOURS, "dye(0, 1, 0); dye(0, 2, 1); cylinders(0) = 3; made(0, 2) = 2");
    }

    private static void pairsOfTerms() {
        BOOK.holds("A colour whose ink is not among them is made by the two of them with the least numbers, the lower one first, that do",
            grey(80, 60, 40, 30, 24), SEVEN_COLOURS,
            "dye(0, 1, 0); dye(0, 2, 1); dye(0, 3, 2); dye(0, 4, 3); dye(0, 5, 4); dye(0, 6, 0); dye(0, 7, 0); cylinders(0) = 15; made(0, 5) = 9",
            "made(0, 4) = 8; made(0, 1) = 1");
        BOOK.holds("the two of them with the least numbers",
            grey(20, 40, 50, 100, 90), SEVEN_COLOURS,
            "dye(0, 1, 0); dye(0, 2, 1); dye(0, 3, 2); dye(0, 4, 4); dye(0, 5, 4); dye(0, 6, 4); dye(0, 7, 4); cylinders(0) = 22; made(0, 1) = 6",
            "made(0, 2) = 2; made(0, 4) = 16");
        BOOK.holds("the lower one first",
            grey(60, 90, 30, 80, 10, 18), SEVEN_COLOURS,
            "dye(0, 1, 0); dye(0, 2, 1); dye(0, 3, 2); dye(0, 4, 3); dye(0, 5, 4); dye(0, 6, 5); dye(0, 7, 0); cylinders(0) = 31; made(0, 6) = 5");
        BOOK.holds("A colour whose ink is not among them",
            grey(50, 25, 50), THREE_COLOURS, "dye(0, 1, 0); dye(0, 2, 1); dye(0, 3, 0); cylinders(0) = 3; made(0, 2) = 2");
    }

    private static void contrastOfTerms() {
        String inks = "ink(10, 20, 30); ink(15, 50, 0); motif(4, 3, 's'); colourway(0); dye(0, 1, 0); dye(0, 2, 1); dye(0, 3, 0);";
        BOOK.holds("the mean of the differences of lightness",
            inks, "paint(0, 0, 0, 1, 1, 1); paint(0, 1, 0, 1, 1, 2); contrast(0, 0) = 5.0; contrast(0, 1) = 30.0; contrast(0, 2) = 30.0");
        BOOK.holds("the mean of the differences of lightness",
            inks, "paint(0, 0, 0, 1, 1, 1); paint(0, 1, 0, 1, 1, 2); paint(0, 0, 1, 1, 1, 3); contrast(0, 0) = 2.5; contrast(0, 1) = 15.0");
        BOOK.holds("places of the period beside or above each other",
            inks,
            "paint(0, 1, 0, 1, 1, 1); paint(0, 2, 1, 1, 1, 2); contrast(0, 0) = throws.ArithmeticException; paint(0, 1, 1, 1, 1, 1)",
            "contrast(0, 0) = 5.0");
        BOOK.holds("beside or above each other, around", inks, "paint(0, 0, 1, 1, 1, 1); paint(0, 3, 1, 1, 1, 2); contrast(0, 1) = 30.0");
        BOOK.holds("beside or above each other, around", inks, "paint(0, 1, 0, 1, 1, 1); paint(0, 1, 2, 1, 1, 2); contrast(0, 1) = 30.0");
        BOOK.holds("beside or above each other, around",
            grey(10, 40, 20), "motif(2, 3, 's'); colourway(0); dye(0, 1, 0); dye(0, 2, 1); dye(0, 3, 2)",
            "paint(0, 0, 0, 1, 1, 1); paint(0, 1, 0, 1, 1, 2); paint(0, 0, 1, 1, 1, 3); contrast(0, 0) = 23.333334");
        BOOK.holds("all pairs of places of the period",
            grey(10, 40, 70), "motif(3, 4, 'd'); colourway(0); dye(0, 1, 0); dye(0, 2, 1); dye(0, 3, 2)",
            "paint(0, 2, 0, 1, 1, 1); paint(0, 0, 0, 1, 1, 2); contrast(0, 0) = throws.ArithmeticException; paint(0, 0, 2, 1, 1, 3)",
            "contrast(0, 0) = 60.0");
        BOOK.holds("that have unlike colours",
            inks, "paint(0, 0, 0, 2, 1, 1); contrast(0, 0) = throws.ArithmeticException; paint(0, 2, 0, 1, 1, 2); contrast(0, 0) = 5.0");
        BOOK.holds("that have unlike colours", inks, "paint(0, 0, 0, 1, 1, 1); paint(0, 1, 0, 1, 1, 3); contrast(0, 1) = 0.0");
        BOOK.holds("neither being the ground",
            inks, "paint(0, 1, 1, 1, 1, 1); contrast(0, 0) = throws.ArithmeticException; paint(0, 1, 2, 1, 1, 2); contrast(0, 0) = 5.0");
    }

    private static void twinsOfTerms() {
        String apart = "motif(4, 3, 's'); colourway(0); paint(0, 0, 0, 1, 1, 1); paint(0, 2, 1, 1, 1, 2); ink(50, 50, 50);";
        String dyed = "dye(0, 1, 0); dye(0, 2, 1);";
        BOOK.holds("no more than 2 apart under the lamp 0", apart, "ink(52, 61, 50);", dyed, "falseTwins(0) = 1");
        BOOK.holds("no more than 2 apart under the lamp 0", apart, "ink(48, 61, 50);", dyed, "falseTwins(0) = 1");
        BOOK.holds("no more than 2 apart under the lamp 0", apart, "ink(53, 61, 50);", dyed, "falseTwins(0) = 0");
        BOOK.holds("no more than 2 apart under the lamp 0", apart, "ink(47, 0, 100);", dyed, "falseTwins(0) = 0");
        BOOK.holds("and more than 10 under another one", apart, "ink(50, 60, 50);", dyed, "falseTwins(0) = 0");
        BOOK.holds("and more than 10 under another one", apart, "ink(50, 40, 60);", dyed, "falseTwins(0) = 0");
        BOOK.holds("and more than 10 under another one", apart, "ink(50, 39, 50);", dyed, "falseTwins(0) = 1");
        BOOK.holds("and more than 10 under another one", apart, "ink(50, 50, 61);", dyed, "falseTwins(0) = 1");
        BOOK.holds("and more than 10 under another one", apart, "ink(51, 50, 39);", dyed, "falseTwins(0) = 1");
        BOOK.holds("and more than 10 under another one", apart, "ink(52, 0, 100);", dyed, "falseTwins(0) = 1");
        BOOK.holds("Two colours of a colourway are false twins",
            apart, "ink(50, 100, 0); dye(0, 1, 1); dye(0, 2, 1); dye(0, 3, 0); falseTwins(0) = 0");
    }

    private static void ink() {
        BOOK.open("Promise 10");
        BOOK.holds("Makes an ink", "ink(1, 2, 3) = 0; ink(100, 100, 100) = 1; over(0, 1, 0) = 1; over(0, 1, 1) = 2; over(0, 1, 2) = 3");
        BOOK.holds("`one`: the lightness under the lamp 0",
            "ink(0, 50, 50) = 0; ink(100, 50, 50) = 1; over(0, 1, 0) = 0; over(1, 1, 0) = 100; ink(-1, 0, 0) = throws.IllegalArgumentException",
            "ink(101, 0, 0) = throws.IllegalArgumentException");
        BOOK.holds("`two`: under the lamp 1",
            "ink(50, 0, 50) = 0; ink(50, 100, 50) = 1; over(0, 1, 1) = 0; over(1, 1, 1) = 100; ink(0, -1, 0) = throws.IllegalArgumentException",
            "ink(0, 101, 0) = throws.IllegalArgumentException");
        BOOK.holds("`three`: under the lamp 2",
            "ink(50, 50, 0) = 0; ink(50, 50, 100) = 1; over(0, 1, 2) = 0; over(1, 1, 2) = 100; ink(0, 0, -1) = throws.IllegalArgumentException",
            "ink(0, 0, 101) = throws.IllegalArgumentException");
        BOOK.holds("Returns its number", "ink(1, 1, 1) = 0; ink(1, 1, 1) = 1; ink(1, 1, 101) = throws.IllegalArgumentException; ink(1, 1, 1) = 2");
        BOOK.refuses(Book.WRONG, "a number is out of range",
            "",
            "ink(2147483647, 0, 0); ink(-2147483648, 0, 0); ink(0, 2147483647, 0); ink(0, -2147483648, 0); ink(0, 0, 2147483647);"
                + "ink(0, 0, -2147483648)");
        BOOK.refuses(Book.FULL, "if there are 10", TEN_INKS, "ink(0, 0, 0); ink(100, 100, 100)");
        BOOK.refuses(Book.WRONG, "Throws `IllegalArgumentException`",
            TEN_INKS, "ink(-1, 0, 0); ink(101, 0, 0); ink(0, -1, 0); ink(0, 101, 0); ink(0, 0, -1); ink(0, 0, 101)");
    }

    private static void over() {
        BOOK.open("Promise 11");
        BOOK.holds("Returns the lightness of one ink over another one",
            "ink(99, 50, 100); ink(99, 33, 7); over(0, 1, 0) = 98; over(0, 1, 1) = 16; over(1, 0, 2) = 7");
        BOOK.holds("`ink`: an ink",
            TEN_INKS.replaceFirst("1, 1, 1", "100, 2, 3"),
            "over(0, 0, 0) = 100; over(9, 0, 0) = 1; over(9, 9, 0) = 0; over(10, 0, 0) = throws.IndexOutOfBoundsException");
        BOOK.holds("`other`: another one, or the same",
            "ink(30, 20, 100); ink(50, 50, 50); over(0, 0, 0) = 9; over(0, 0, 1) = 4; over(0, 0, 2) = 100; over(0, 1, 2) = 50; over(1, 0, 0) = 15");
        BOOK.holds("`lamp`: 0 to 2",
            "ink(100, 90, 80); over(0, 0, 0) = 100; over(0, 0, 1) = 81; over(0, 0, 2) = 64; over(0, 0, 3) = throws.IndexOutOfBoundsException",
            "over(0, 0, -1) = throws.IndexOutOfBoundsException");
        BOOK.holds("Returns the lightness.", "ink(0, 100, 1); over(0, 0, 0) = 0; over(0, 0, 1) = 100; over(0, 0, 2) = 0");
        BOOK.refuses(Book.NONE_SUCH, "no such ink, for either",
            "ink(1, 1, 1); ink(2, 2, 2)",
            "over(2, 0, 0); over(-1, 0, 0); over(0, 2, 0); over(0, -1, 0); over(2, 2, 0); over(2147483647, 0, 0); over(0, -2147483648, 0)");
        BOOK.refuses(Book.NONE_SUCH, "or lamp", "ink(1, 1, 1)", "over(0, 0, 2147483647); over(0, 0, -2147483648); over(1, 0, 3); over(0, 1, -1)");
    }

    private static void colourway() {
        BOOK.open("Promise 12");
        BOOK.holds("Makes a colourway without inks",
            grey(10), SEVEN_COLOURS,
            "isWhole(0) = false; dye(0, 1, 0) = -1; dye(0, 2, 0) = -1; dye(0, 3, 0) = -1; dye(0, 4, 0) = -1; dye(0, 5, 0) = -1; dye(0, 6, 0) = -1",
            "dye(0, 7, 0) = -1");
        BOOK.holds("Makes a colourway without inks",
            grey(10), TWO_COLOURS,
            "dye(0, 1, 0); dye(0, 2, 0); colourway(0) = 1; isWhole(1) = false; isWhole(0) = true; dye(1, 1, 0) = -1",
            "standardBits(1) = throws.NoSuchElementException");
        BOOK.holds("`motif`: the motif",
            "motif(2, 2, 's');".repeat(6), "paint(5, 0, 0, 1, 1, 1); colourway(5) = 0; colourway(0) = 1; isWhole(0) = false; isWhole(1) = true");
        BOOK.holds("Returns its number", "motif(2, 2, 's'); colourway(0) = 0; colourway(1) = throws.IndexOutOfBoundsException; colourway(0) = 1");
        BOOK.refuses(Book.NONE_SUCH, "no such motif",
            "motif(2, 2, 's')", "colourway(1); colourway(-1); colourway(2147483647); colourway(-2147483648)");
        BOOK.refuses(Book.FULL, "if there are 8", EIGHT_COLOURWAYS, "colourway(0)");
        BOOK.refuses(Book.NONE_SUCH, "Throws `IndexOutOfBoundsException`", EIGHT_COLOURWAYS, "colourway(1); colourway(-1)");
    }

    private static void dye() {
        BOOK.open("Promise 13");
        BOOK.holds("Tells the ink of a colour",
            grey(10, 20), TWO_COLOURS, "dye(0, 1, 1); dye(0, 2, 0); made(0, 1) = 2; made(0, 2) = 1; dye(0, 1, 0) = 1; made(0, 1) = 1");
        String slipped = grey(90, 80) + TWO_COLOURS + "dye(0, 1, 0); dye(0, 2, 1); slip(0, 0, 1, -2); slip(0, 1, 3, 3); spread(0, 0, true);"
            + "spread(0, 1, true);";
        String straight = "slip(0, 0, 0, 0) = 33; slip(0, 1, 0, 0) = 33; spread(0, 0, false) = false; spread(0, 1, false) = false";
        BOOK.holds("slips and spreads of the colourway are gone",
            slipped, "bare(0) = 1; stained(0) = 5; paint(0, 0, 2, 1, 1, 3); dye(0, 3, 0) = -1;", straight);
        BOOK.holds("slips and spreads of the colourway are gone", slipped, "dye(0, 7, 1) = -1; bare(0) = 0; stained(0) = 0;", straight);
        BOOK.holds("also if it is the ink that it was", slipped, "dye(0, 1, 0) = 0;", straight);
        BOOK.holds("slips and spreads of the colourway are gone",
            slipped, "colourway(0); dye(1, 1, 0) = -1; slip(0, 0, 0, 0) = 41; spread(0, 1, false) = true");
        BOOK.holds("slips and spreads of the colourway are gone",
            slipped,
            "dye(0, 8, 0) = throws.IllegalArgumentException; dye(0, 1, 2) = throws.IndexOutOfBoundsException; slip(0, 0, 0, 0) = 41",
            "slip(0, 1, 0, 0) = 66; spread(0, 1, false) = true");
        BOOK.holds("`colourway`: the colourway",
            EIGHT_COLOURWAYS, grey(1), "paint(0, 0, 0, 1, 1, 1); dye(7, 1, 0) = -1; isWhole(7) = true; isWhole(6) = false; isWhole(0) = false");
        BOOK.holds("`colour`: 1 to 7",
            grey(5), SEVEN_COLOURS, "dye(0, 1, 0) = -1; dye(0, 7, 0) = -1; dye(0, 1, 0) = 0; dye(0, 7, 0) = 0; dye(0, 2, 0) = -1; dye(0, 6, 0) = -1");
        BOOK.holds("`ink`: the ink",
            TEN_INKS, TWO_COLOURS,
            "dye(0, 1, 9) = -1; dye(0, 2, 0) = -1; dye(0, 1, 10) = throws.IndexOutOfBoundsException; dye(0, 1, 1) = 9; dye(0, 2, 1) = 0");
        BOOK.holds("Returns the ink before, -1 for none",
            grey(1, 2, 3), TWO_COLOURS,
            "dye(0, 1, 2) = -1; dye(0, 1, 0) = 2; dye(0, 1, 0) = 0; dye(0, 1, 1) = 0; dye(0, 2, 1) = -1; dye(0, 5, 1) = -1; dye(0, 5, 2) = 1");
    }

    private static void dyeRefused() {
        String dyed = grey(1, 2) + TWO_COLOURS + "dye(0, 1, 0); dye(0, 2, 1); slip(0, 0, 2, 2); spread(0, 1, true);";
        BOOK.refuses(Book.NONE_SUCH, "no such colourway or ink",
            dyed, "dye(1, 1, 0); dye(-1, 1, 0); dye(2147483647, 1, 0); dye(0, 1, 2); dye(0, 1, -1); dye(0, 1, 10); dye(0, 1, -2147483648)");
        BOOK.refuses(Book.WRONG, "no such colour", dyed, "dye(0, 0, 0); dye(0, 8, 0); dye(0, -1, 0); dye(0, 2147483647, 0); dye(0, -2147483648, 0)");
        BOOK.refuses(Book.NONE_SUCH, "Throws `IndexOutOfBoundsException`", dyed, "dye(1, 0, 0); dye(-1, 8, 0); dye(0, 0, 2); dye(0, 8, -1)");
    }

    private static void isWhole() {
        BOOK.open("Promise 14");
        BOOK.holds("Returns whether a colourway is whole",
            grey(10),
            "motif(3, 3, 's'); colourway(0); isWhole(0) = true; paint(0, 1, 1, 1, 1, 7); isWhole(0) = false; dye(0, 6, 0); isWhole(0) = false",
            "dye(0, 7, 0); isWhole(0) = true");
        BOOK.holds("`colourway`: the colourway",
            EIGHT_COLOURWAYS, grey(1), "paint(0, 0, 0, 1, 1, 1); dye(7, 1, 0); isWhole(7) = true; isWhole(0) = false; isWhole(6) = false");
        BOOK.holds("Returns true if so",
            grey(10), TWO_COLOURS,
            "dye(0, 1, 0); isWhole(0) = false; paint(0, 0, 0, 4, 3, 2); isWhole(0) = false; paint(0, 0, 0, 4, 3, 1); isWhole(0) = true",
            "paint(0, 0, 0, 4, 3, 0); isWhole(0) = true");
        BOOK.refuses(Book.NONE_SUCH, NO_COLOURWAY, TWO_COLOURS, "isWhole(1); isWhole(-1); isWhole(2147483647); isWhole(-2147483648)");
    }

    private static void cylinders() {
        BOOK.open("Promise 15");
        BOOK.holds("Returns the cylinders, as bits by the numbers of inks",
            TEN_INKS, TWO_COLOURS, "dye(0, 1, 9); dye(0, 2, 9); cylinders(0) = 512; dye(0, 1, 0); dye(0, 2, 0); cylinders(0) = 1");
        BOOK.holds("`colourway`: the colourway",
            EIGHT_COLOURWAYS, grey(70, 60), "paint(0, 0, 0, 1, 1, 1); dye(0, 1, 0); dye(7, 1, 1); cylinders(7) = 2; cylinders(0) = 1");
        BOOK.holds("Returns the bits",
            grey(51, 52, 53, 54, 55, 56, 57, 58, 59, 60), SEVEN_COLOURS,
            "dye(0, 1, 9); dye(0, 2, 8); dye(0, 3, 7); dye(0, 4, 3); dye(0, 5, 2); dye(0, 6, 1); dye(0, 7, 0); cylinders(0) = 911");
        BOOK.holds("Returns the bits", "motif(2, 2, 's'); colourway(0); cylinders(0) = 0");
        BOOK.refuses(Book.NONE_SUCH, NO_COLOURWAY, NOT_WHOLE, "cylinders(1); cylinders(-1); cylinders(2147483647); cylinders(-2147483648)");
        BOOK.refuses(Book.UNFIT, "it is not whole", NOT_WHOLE, "cylinders(0)");
        BOOK.holds("or no set of cylinders makes it", grey(1), TWO_COLOURS, "dye(0, 1, 0); dye(0, 2, 0); cylinders(0) = 1");
    }

    private static void made() {
        BOOK.open("Promise 16");
        BOOK.holds("Returns by which cylinders a colour is printed, as bits",
            grey(80, 50, 40), THREE_COLOURS, "dye(0, 1, 0); dye(0, 2, 1); dye(0, 3, 2); made(0, 1) = 1; made(0, 2) = 2; made(0, 3) = 3");
        BOOK.holds("`colourway`: the colourway",
            EIGHT_COLOURWAYS, grey(70, 60), "paint(0, 0, 0, 1, 1, 1); dye(0, 1, 0); dye(7, 1, 1); made(7, 1) = 2; made(0, 1) = 1");
        BOOK.holds("`colour`: 1 to 7",
            grey(70, 60), SEVEN_COLOURS,
            "dye(0, 1, 1); dye(0, 2, 0); dye(0, 3, 0); dye(0, 4, 0); dye(0, 5, 0); dye(0, 6, 0); dye(0, 7, 1); made(0, 1) = 2; made(0, 7) = 2",
            "made(0, 2) = 1; made(0, 6) = 1");
        BOOK.holds("0 for a colour that no cell has",
            grey(70, 60), TWO_COLOURS,
            "dye(0, 1, 0); dye(0, 2, 1); dye(0, 3, 1); made(0, 3) = 0; made(0, 7) = 0; paint(0, 2, 1, 1, 1, 1); made(0, 2) = 0; cylinders(0) = 1");
        BOOK.holds("Returns the bits", TEN_INKS, TWO_COLOURS, "dye(0, 1, 9); dye(0, 2, 9); made(0, 1) = 512; made(0, 2) = 512; made(0, 3) = 0");
        BOOK.refuses(Book.NONE_SUCH, NO_COLOURWAY, NOT_WHOLE, "made(1, 1); made(-1, 1); made(2147483647, 1)");
        BOOK.refuses(Book.WRONG, "no such colour",
            grey(1) + TWO_COLOURS + "dye(0, 1, 0); dye(0, 2, 0)", "made(0, 0); made(0, 8); made(0, -1); made(0, 2147483647); made(0, -2147483648)");
        BOOK.refuses(Book.UNFIT, "it is not whole", NOT_WHOLE, "made(0, 1); made(0, 2); made(0, 7)");
        BOOK.holds("or no set of cylinders makes it", grey(1), TWO_COLOURS, "dye(0, 1, 0); dye(0, 2, 0); made(0, 2) = 1");
        BOOK.refuses(Book.NONE_SUCH, "Throws `IndexOutOfBoundsException`", NOT_WHOLE, "made(1, 0); made(-1, 8)");
        BOOK.refuses(Book.WRONG, "Throws `IllegalArgumentException`", NOT_WHOLE, "made(0, 0); made(0, 8)");
    }

    private static void contrast() {
        BOOK.open("Promise 17");
        String pair = "ink(10, 20, 30); ink(15, 50, 0); motif(4, 3, 's'); colourway(0); dye(0, 1, 0); dye(0, 2, 1); paint(0, 0, 0, 1, 1, 1);"
            + "paint(0, 1, 0, 1, 1, 2);";
        BOOK.holds("Returns the contrast", pair, "contrast(0, 0) = 5.0");
        BOOK.holds("`colourway`: the colourway",
            EIGHT_COLOURWAYS, grey(70, 60, 30),
            "paint(0, 0, 0, 1, 1, 1); paint(0, 1, 0, 1, 1, 2); dye(0, 1, 0); dye(0, 2, 1); dye(7, 1, 0); dye(7, 2, 2); contrast(7, 0) = 40.0",
            "contrast(0, 0) = 10.0");
        BOOK.holds("`lamp`: 0 to 2",
            pair,
            "contrast(0, 0) = 5.0; contrast(0, 1) = 30.0; contrast(0, 2) = 30.0; contrast(0, 3) = throws.IndexOutOfBoundsException",
            "contrast(0, -1) = throws.IndexOutOfBoundsException");
        BOOK.holds("both converted to float",
            grey(0, 10), "motif(4, 4, 's'); colourway(0); dye(0, 1, 0); dye(0, 2, 1); dye(0, 3, 0); paint(0, 0, 0, 1, 1, 1); paint(0, 1, 0, 1, 1, 2)",
            "paint(0, 0, 1, 1, 1, 3); paint(0, 0, 3, 1, 1, 3); contrast(0, 0) = 3.3333333");
        BOOK.holds("both converted to float",
            grey(0, 100, 50),
            "motif(12, 12, 't'); colourway(0); dye(0, 1, 0); dye(0, 2, 1); dye(0, 3, 2); paint(0, 0, 0, 12, 12, 1); paint(0, 3, 3, 1, 1, 2)",
            "paint(0, 7, 7, 1, 1, 3); contrast(0, 0) = 75.0; contrast(0, 2) = 75.0");
        BOOK.refuses(Book.NONE_SUCH, "no such colourway or lamp",
            pair, "contrast(1, 0); contrast(-1, 0); contrast(2147483647, 0); contrast(0, 2147483647); contrast(0, -2147483648)");
        BOOK.refuses(Book.UNFIT, "it is not whole", NOT_WHOLE, "contrast(0, 0); contrast(0, 2)");
        BOOK.refuses(Book.NO_MEAN, "there are no such pairs", "motif(2, 2, 's'); colourway(0)", "contrast(0, 0); contrast(0, 1); contrast(0, 2)");
        BOOK.refuses(Book.NO_MEAN, "there are no such pairs",
            "ink(1, 2, 3); motif(2, 2, 's'); colourway(0); dye(0, 1, 0); paint(0, 0, 0, 1, 1, 1)", "contrast(0, 0)");
        BOOK.refuses(Book.NO_MEAN, "there are no such pairs",
            "ink(1, 2, 3); motif(2, 2, 's'); colourway(0); dye(0, 1, 0); paint(0, 0, 0, 2, 2, 1)", "contrast(0, 0)");
        BOOK.refuses(Book.NO_MEAN, "there are no such pairs",
            "ink(1, 2, 3); ink(3, 2, 1);" + TWO_COLOURS + "dye(0, 1, 0); dye(0, 2, 1)", "contrast(0, 0)");
        BOOK.refuses(Book.NONE_SUCH, "Throws `IndexOutOfBoundsException`", NOT_WHOLE, "contrast(0, 3); contrast(0, -1); contrast(1, 0)");
        BOOK.refuses(Book.UNFIT, "Throws `UnsupportedOperationException`",
            "motif(2, 2, 's'); colourway(0); paint(0, 0, 0, 1, 1, 1)", "contrast(0, 0)");
        BOOK.refuses(Book.NONE_SUCH, "Throws `IndexOutOfBoundsException`", "motif(2, 2, 's'); colourway(0)", "contrast(0, 3); contrast(0, -1)");
    }

    private static void falseTwins() {
        BOOK.open("Promise 18");
        String shifted = "ink(50, 0, 9); ink(51, 11, 9); ink(52, 22, 9); ink(50, 33, 9); ink(51, 44, 9); ink(50, 55, 9); ink(52, 66, 9);";
        String dyed = "dye(0, 1, 0); dye(0, 2, 1); dye(0, 3, 2); dye(0, 4, 3); dye(0, 5, 4); dye(0, 6, 5); dye(0, 7, 6);";
        BOOK.holds("Returns how many pairs of colours", shifted, SEVEN_COLOURS, dyed, "falseTwins(0) = 21");
        BOOK.holds("that cells have, are false twins",
            shifted, "motif(4, 3, 's'); colourway(0);", dyed,
            "falseTwins(0) = 0; paint(0, 0, 0, 1, 1, 1); falseTwins(0) = 0; paint(0, 2, 1, 1, 1, 7); falseTwins(0) = 1; paint(0, 2, 2, 1, 1, 4)",
            "falseTwins(0) = 3");
        BOOK.holds("`colourway`: the colourway",
            EIGHT_COLOURWAYS, shifted,
            "paint(0, 0, 0, 1, 1, 1); paint(0, 1, 1, 1, 1, 2); dye(0, 1, 0); dye(0, 2, 0); dye(7, 1, 0); dye(7, 2, 1); falseTwins(7) = 1",
            "falseTwins(0) = 0");
        BOOK.holds("Returns how many.",
            "ink(50, 50, 50); ink(52, 61, 50); ink(48, 50, 39);", THREE_COLOURS,
            "dye(0, 1, 0); dye(0, 2, 1); dye(0, 3, 2); falseTwins(0) = 2; dye(0, 3, 1); falseTwins(0) = 2; dye(0, 1, 1); falseTwins(0) = 0");
        BOOK.refuses(Book.NONE_SUCH, NO_COLOURWAY, NOT_WHOLE, "falseTwins(1); falseTwins(-1); falseTwins(2147483647); falseTwins(-2147483648)");
        BOOK.refuses(Book.UNFIT, "it is not whole", NOT_WHOLE, "falseTwins(0)");
    }
}
