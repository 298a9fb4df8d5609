import java.util.Arrays;

/** What the document says of all: the calls of one object, exceptions, the examples, and the promises 51 to 53. */
public final class HouseTest {
    private static final Book BOOK = new Book("HouseTest");
    /** Of all that a house can hold as many as may be, but for two rolls; web 8 is not cut and would make three. */
    private static final String FULL_HOUSE =
        "motif(2, 2, 's'); motif(3, 4, 'd'); motif(2, 3, 't'); motif(2, 2, 's'); motif(12, 12, 't'); motif(5, 2, 'd');"
        + "paint(0, 0, 0, 1, 1, 1); paint(0, 1, 0, 1, 1, 2); paint(1, 0, 0, 2, 2, 1); paint(2, 0, 0, 1, 1, 1);"
        + "ink(90, 90, 90); ink(70, 50, 70); ink(60, 60, 60);" + "ink(1, 2, 3);".repeat(7)
        + "colourway(0); colourway(1); colourway(2); colourway(3); colourway(0); colourway(1); colourway(2); colourway(4);"
        + "dye(0, 1, 0); dye(0, 2, 1); dye(1, 1, 0); dye(2, 1, 2); slip(0, 0, 1, -1); slip(1, 0, 0, 2); spread(0, 1, true);"
        + "roller(20); roller(10);" + "roller(30);".repeat(4)
        + "streak(0); streak(10); streak(20); streak(30); streak(40); streak(50); streak(60); streak(70); streak(80); streak(90);"
        + "licence(0, 0, 4); licence(1, 1, 9); licence(3, 0, 9999); days(1); approve(0, 100); approve(3, -50);"
        + "web(3, 290, 5, 0, 125);" + "web(0, 15, 5, 100, 0);".repeat(9)
        + "mark(0, 0, 1); mark(8, 14, 2); mark(9, 0, 4); cut(0, 5, 20); cut(9, 15, 1);"
        + "run(0); run(1); run(2); run(3); run(0); run(2); wall(4, 2); wall(2, 3);" + "wall(5, 1);".repeat(4)
        + "opening(0, 1); opening(2, 3); opening(4, 5); opening(6, 7); opening(8, 9); opening(10, 11); opening(12, 13); opening(14, 15); days(4);";

    private HouseTest() {
    }

    public static void main(String[] args) {
        callsOfAnObject();
        refusedByAFullHouse();
        theFirstThatIsListed();
        examples();
        meanRoll();
        checksum();
        isSound();
        BOOK.end();
    }

    private static void callsOfAnObject() {
        BOOK.open("What it is");
        BOOK.holds("A house of printed papers",
            FULL_HOUSE, "rolls() = 58; washes() = 4; culprit() = 1; strips(0) = 13; bare(0) = 1; isSound() = true");
        BOOK.holds("An object is used for at most 512 calls",
            "motif(2, 2, 's');", "paint(0, 1, 1, 1, 1, 7) = 1; paint(0, 1, 1, 1, 1, 3) = 1;".repeat(255), "cell(0, 1, 1) = 3");
        BOOK.holds("An object is used for at most 512 calls",
            FULL_HOUSE, "hang(3, 5) = 5; hang(3, 5) = 6;", "colourAt(4, 9, 9) = 0;".repeat(415),
            "isSound() = true; meanRoll() = " + (290.0 - 24.0 - 24.0) / 58.0);
        BOOK.leavesFree("what later calls answer is free");
    }

    private static void refusedByAFullHouse() {
        String words = "A method that throws an exception changes nothing";
        BOOK.open("Exceptions");
        BOOK.refuses(Book.NONE_SUCH, words,
            FULL_HOUSE,
            "paint(6, 0, 0, 1, 1, 1); paint(0, 2, 0, 1, 1, 1); cell(0, 0, 2); colourAt(6, 0, 0); period(6, true); breaks(6); shapes(-1);"
                + "likeness(0, 6); over(0, 10, 0); over(0, 0, 3)");
        BOOK.refuses(Book.NONE_SUCH, words,
            FULL_HOUSE,
            "colourway(6); dye(8, 1, 0); dye(0, 1, 10); isWhole(8); cylinders(8); made(8, 1); contrast(0, 3); falseTwins(8); slip(8, 0, 0, 0);"
                + "spread(8, 0, true); bare(8); stained(8)");
        BOOK.refuses(Book.NONE_SUCH, words,
            FULL_HOUSE,
            "fits(0, 6); licence(6, 0, 0); web(8, 10, 0, 0, 0); mark(10, 0, 1); mark(8, 15, 1); cut(10, 5, 0); placeOf(58); lengthOf(58);"
                + "shadeBits(58); approve(8, 0); standardBits(8); matches(58)");
        BOOK.refuses(Book.NONE_SUCH, words,
            FULL_HOUSE, "run(8); opening(26, 26); opening(0, 27); strips(8); need(8, 0); need(0, 13); offset(8, 5); hang(8, 5)");
        BOOK.refuses(Book.WRONG, words,
            FULL_HOUSE,
            "motif(1, 2, 's'); paint(0, 0, 0, 3, 1, 1); paint(0, 0, 0, 1, 1, 8); colourAt(0, 10000, 0); ink(101, 0, 0); dye(0, 8, 0); made(0, 0);"
                + "slip(0, 0, 4, 0); slip(0, 0, 0, -4); roller(1); streak(90); streak(100000)");
        BOOK.refuses(Book.WRONG, words,
            FULL_HOUSE,
            "licence(0, 5, 4); days(100); web(0, 9, 0, 0, 0); mark(8, 0, 5); cut(8, 4, 0); approve(0, 10000); wall(0, 1); opening(5, 5);"
                + "offset(0, 100); hang(0, 100)");
        BOOK.refuses(Book.UNFIT, words,
            FULL_HOUSE,
            "likeness(0, 1); cylinders(4); made(5, 1); contrast(6, 0); falseTwins(4); slip(4, 0, 0, 0); slip(0, 2, 1, 1); spread(0, 2, true);"
                + "spread(4, 0, true); bare(4); stained(4); web(2, 10, 0, 0, 0); web(4, 10, 0, 0, 0)");
        BOOK.refuses(Book.UNFIT, words, FULL_HOUSE, "web(0, 10, 0, 0, 0); mark(0, 0, 1); cut(0, 5, 0); run(4); opening(0, 2)");
        BOOK.refuses(Book.FULL, words,
            FULL_HOUSE,
            "motif(2, 2, 's'); ink(1, 1, 1); colourway(0); roller(2); streak(91); web(3, 10, 0, 0, 0); cut(8, 5, 20); run(0); wall(1, 1);"
                + "opening(15, 16)");
        BOOK.refuses(Book.FULL, words, "days(99);".repeat(101) + "motif(2, 2, 's'); colourway(0); approve(0, 100)", "days(1)");
        BOOK.refuses(Book.MISSING, words, FULL_HOUSE, "standardBits(1); runAt(6); offset(0, 5); hang(0, 5); hang(3, 6)");
        BOOK.refuses(Book.MISSING, words, FULL_HOUSE + "wipe(); streak(0); streak(11)", "culprit()");
        BOOK.refuses(Book.NO_MEAN, words, FULL_HOUSE, "contrast(3, 0); contrast(1, 0)");
    }

    private static void theFirstThatIsListed() {
        String words = "the one that is listed first is thrown";
        BOOK.refuses(Book.WRONG, words,
            FULL_HOUSE,
            "motif(13, 2, 's'); motif(2, 2, 'x'); motif(2, 3, 'd'); ink(0, 0, 101); made(4, 8); slip(4, 0, 4, 0); slip(0, 9, 0, -4); roller(201);"
                + "streak(89); streak(-1); days(0); wall(1, 101)");
        BOOK.refuses(Book.WRONG, words,
            FULL_HOUSE,
            "web(4, 10, 100, 0, 0); web(3, 301, 0, 0, 0); mark(0, 0, 0); cut(0, 5, 21); cut(8, 101, 0); opening(0, 0); opening(2, 1);"
                + "offset(0, -1); hang(0, -1)");
        BOOK.refuses(Book.NONE_SUCH, words,
            FULL_HOUSE,
            "paint(6, 0, 0, 13, 1, 1); colourAt(6, 10000, 0); colourway(-1); dye(0, 0, 10); dye(8, 8, 0); made(8, 0); contrast(4, 3);"
                + "contrast(3, -1); slip(8, 0, 4, 0); licence(6, -1, 0)");
        BOOK.refuses(Book.NONE_SUCH, words,
            FULL_HOUSE,
            "web(8, 9, 0, 0, 0); mark(0, 290, 5); cut(10, 5, 21); approve(8, 10000); run(-1); opening(26, 0); opening(0, 27); opening(-1, -1);"
                + "offset(8, 100); hang(8, -1)");
        BOOK.refuses(Book.UNFIT, words,
            FULL_HOUSE, "contrast(4, 0); web(4, 10, 0, 0, 0); web(2, 10, 0, 0, 0); cut(0, 5, 20); run(4); run(5); opening(14, 16)");
        BOOK.refuses(Book.UNFIT, words, FULL_HOUSE + "empties(); wipe()", "offset(0, 5); hang(0, 6); culprit()");
    }

    private static void examples() {
        BOOK.open("Examples");
        for (String example : BOOK.document().examples()) {
            BOOK.holds("example:", example.replaceAll("\\.$", ""));
        }
    }

    private static void meanRoll() {
        String webs = "motif(2, 3, 's'); colourway(0); licence(0, 0, 0); web(0, 20, 0, 0, 0); web(0, 13, 0, 0, 0);";
        BOOK.open("Promise 51");
        BOOK.holds("Returns the mean of what is left of rolls", webs, "cut(0, 10, 0); meanRoll() = 10.0; wall(2, 4); hang(0, 0); meanRoll() = 8.0");
        BOOK.holds("the sum divided by their number, both converted to double",
            webs, "cut(0, 10, 0); cut(1, 12, 0); meanRoll() = " + 32.0 / 3.0, "wall(2, 10); hang(0, 0); meanRoll() = " + 22.0 / 3.0);
        BOOK.holds("the sum divided by their number, both converted to double",
            webs, "cut(1, 13, 0); wall(2, 13); hang(0, 0); lengthOf(0) = 0; meanRoll() = 0.0");
        BOOK.refuses(Book.NO_MEAN, "if there are none", "", "meanRoll()");
        BOOK.refuses(Book.NO_MEAN, "if there are none", webs, "meanRoll()");
        BOOK.refuses(Book.NO_MEAN, "if there are none", webs + "cut(1, 14, 0)", "meanRoll()");
    }

    private static long sum(long begin, int... numbers) {
        long sum = begin;
        for (int number : numbers) {
            sum = 31L * sum + number;
        }
        return sum;
    }

    private static void checksum() {
        String motifs = "motif(2, 3, 's'); motif(2, 2, 't'); paint(0, 1, 0, 1, 1, 3); paint(0, 0, 2, 1, 1, 5); paint(1, 1, 1, 1, 1, 7);";
        long cells = sum(7L, 0, 3, 0, 0, 5, 0, 0, 0, 0, 7);
        BOOK.open("Promise 52");
        BOOK.holds("Returns a sum over all",
            "checksum() = 7; motif(2, 2, 's'); checksum() = " + sum(7L, 0, 0, 0, 0), "paint(0, 1, 1, 1, 1, 1); checksum() = " + sum(7L, 0, 0, 0, 1));
        BOOK.holds("Returns 7 at first", "checksum() = 7; ink(1, 2, 3); wall(5, 5); roller(7); streak(7); days(7); checksum() = 7");
        BOOK.holds("then for each motif and each cell, row by row, 31 times itself plus the colour", motifs, "checksum() = " + cells);
        BOOK.holds("then for each motif and each cell, row by row, 31 times itself plus the colour",
            "motif(12, 12, 's'); paint(0, 0, 0, 12, 12, 7);", "checksum() = " + sum(7L, sevens(144)));
        BOOK.holds("then for each roll 31 times itself plus what is left, and 31 times itself plus the bits of its shade",
            motifs, "colourway(0); paint(0, 0, 0, 2, 3, 0); licence(0, 0, 0); web(0, 20, 4, -150, 0); web(0, 20, 4, 33, 125)",
            "cut(0, 12, 0); checksum() = " + sum(7L, 0, 0, 0, 0, 0, 0, 0, 0, 0, 7, 12, Float.floatToIntBits(-1.5f)),
            "cut(1, 8, 0); wall(2, 9); hang(0, 4); checksum() = "
                + sum(7L, 0, 0, 0, 0, 0, 0, 0, 0, 0, 7, 3, Float.floatToIntBits(-1.5f), 8, Float.floatToIntBits(0.33f), 8, Float.floatToIntBits(0.33f
                + 1f)));
        BOOK.holds("plus what is left",
            motifs,
            "paint(0, 0, 0, 2, 3, 0); colourway(0); licence(0, 0, 0); web(0, 10, 4, 0, 0); cut(0, 10, 0); wall(2, 10); hang(0, 4); checksum() = "
                + sum(7L, 0, 0, 0, 0, 0, 0, 0, 0, 0, 7, 0, 0));
    }

    private static int[] sevens(int count) {
        int[] sevens = new int[count];
        Arrays.fill(sevens, 7);
        return sevens;
    }

    private static void isSound() {
        String painted = "motif(12, 12, 'd'); motif(11, 11, 't'); motif(2, 2, 's'); paint(0, 7, 7, 9, 9, 1); paint(1, 7, 7, 9, 9, 1);"
            + "paint(2, 1, 1, 1, 1, 1);";
        String coloured = "motif(4, 4, 't'); ink(80, 80, 80); ink(50, 50, 50); ink(40, 40, 40); colourway(0); paint(0, 0, 0, 1, 1, 1);"
            + "paint(0, 2, 0, 1, 1, 2); paint(0, 0, 2, 1, 1, 3); dye(0, 1, 0); dye(0, 2, 1);";
        BOOK.open("Promise 53");
        BOOK.holds("each period comes back on the cloth",
            painted,
            "isSound() = true; colourAt(0, 0, 0) = 1; colourAt(0, 24, 0) = 1; colourAt(0, 24, 12) = 1; colourAt(1, 22, 22) = 1",
            "colourAt(2, 3, 3) = 1");
        BOOK.holds("cylinders make each colour, and no fewer would",
            coloured, "isSound() = true; dye(0, 3, 2); isSound() = true; cylinders(0) = 3; isWhole(0) = true");
        BOOK.holds("without slips and spreads nothing is bare or stained",
            coloured,
            "dye(0, 3, 2); slip(0, 0, 1, 1); spread(0, 1, true); bare(0) = 6; isSound() = true; slip(0, 0, 0, 0) = 44; spread(0, 1, false) = true",
            "isSound() = true; bare(0) = 0");
        BOOK.holds("and rolls of one web lie apart",
            FULL_HOUSE,
            "isSound() = true; hang(3, 5) = 5; isSound() = true; placeOf(0) = 0; placeOf(1) = 5; placeOf(57) = 285",
            "web(3, 10, 0, 0, 0) = throws.IllegalStateException");
        BOOK.holds("Returns true if so", "isSound() = true;", FULL_HOUSE, "isSound() = true; start(); wipe(); empties(); isSound() = true");
        BOOK.holds("Returns whether all is sound", FULL_HOUSE, "isSound() = true; washes() = 4; bare(0) = 1; isSound() = true");
    }
}
