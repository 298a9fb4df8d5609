/** "Webs and rolls" and the promises 28 to 39: licences, days, webs, faults, rolls, shades and standards. */
public final class WebsTest {
    private static final Book BOOK = new Book("WebsTest");
    private static final String LICENSED = "motif(2, 2, 's'); colourway(0); licence(0, 0, 9999);";
    private static final String NOT_WHOLE = LICENSED + "paint(0, 0, 0, 1, 1, 1);";
    private static final String TEN_WEBS = LICENSED + "web(0, 10, 0, 0, 0);".repeat(10);
    /** A web of 20 that is cut into two rolls of 10, and one of 20 that is not. */
    private static final String CUT = LICENSED + "web(0, 20, 0, 100, 0); web(0, 20, 0, 0, 0); cut(0, 10, 0);";
    /** 59 rolls, and a web of 10 that is not cut. */
    private static final String ALMOST_FULL = LICENSED + "web(0, 295, 0, 0, 0); web(0, 10, 0, 0, 0); cut(0, 5, 0);";
    private static final String LAST_DAY = "days(99);".repeat(101);
    private static final String NO_COLOURWAY = "if there is no such colourway";
    private static final String NO_ROLL = "if there is no such roll";

    private WebsTest() {
    }

    public static void main(String[] args) {
        daysAndLicences();
        websOfTerms();
        shadesOfTerms();
        faultsOfTerms();
        cutsOfTerms();
        rollsOfTerms();
        standardsOfTerms();
        matchesOfTerms();
        licence();
        days();
        web();
        webRefused();
        mark();
        cut();
        cutRefused();
        rolls();
        approve();
        standardBits();
        matches();
        BOOK.end();
    }

    private static int bits(float value) {
        return Float.floatToIntBits(value);
    }

    /** The bits of the shade at a place, as the document adds it up. */
    private static int bitsAt(int shade, int drift, int place) {
        float sum = (float) shade / 100f;
        for (int further = 0; further < place; further++) {
            sum = sum + (float) drift / 1000f;
        }
        return bits(sum);
    }

    private static void daysAndLicences() {
        BOOK.open("Webs and rolls");
        BOOK.holds("Days are numbered from 0",
            "motif(2, 2, 's'); colourway(0); licence(0, 0, 0); web(0, 10, 0, 0, 0) = 0; days(1) = 1",
            "web(0, 10, 0, 0, 0) = throws.UnsupportedOperationException");
        BOOK.holds("on the days from one to another one",
            "motif(2, 2, 's'); colourway(0); licence(0, 2, 3); web(0, 10, 0, 0, 0) = throws.UnsupportedOperationException; days(1)",
            "web(0, 10, 0, 0, 0) = throws.UnsupportedOperationException",
            "days(1) = 2; web(0, 10, 0, 0, 0) = 0; days(1) = 3; web(0, 10, 0, 0, 0) = 1; days(1) = 4",
            "web(0, 10, 0, 0, 0) = throws.UnsupportedOperationException");
        BOOK.holds("on the days from one to another one",
            "motif(2, 2, 's'); colourway(0); licence(0, 9999, 9999);", LAST_DAY.replaceFirst("99", "98"),
            "web(0, 10, 0, 0, 0) = throws.UnsupportedOperationException; days(1) = 9999; web(0, 10, 0, 0, 0) = 0");
        BOOK.holds("A licence lets a motif be printed",
            "motif(2, 2, 's'); motif(2, 2, 's'); colourway(0); colourway(1); colourway(0); licence(0, 0, 0); web(0, 10, 0, 0, 0) = 0",
            "web(2, 10, 0, 0, 0) = 1; web(1, 10, 0, 0, 0) = throws.UnsupportedOperationException");
    }

    private static void websOfTerms() {
        BOOK.holds("printed in a whole colourway",
            NOT_WHOLE,
            "ink(1, 1, 1); web(0, 10, 0, 0, 0) = throws.UnsupportedOperationException; dye(0, 1, 0); web(0, 10, 0, 0, 0) = 0",
            "paint(0, 1, 1, 1, 1, 2); web(0, 10, 0, 0, 0) = throws.UnsupportedOperationException");
        BOOK.holds("whose motif has a licence for the day",
            "motif(2, 2, 's'); colourway(0); web(0, 10, 0, 0, 0) = throws.UnsupportedOperationException; licence(0, 0, 5)",
            "web(0, 10, 0, 0, 0) = 0; licence(0, 1, 5); web(0, 10, 0, 0, 0) = throws.UnsupportedOperationException");
        BOOK.holds("a length, 10 to 300",
            LICENSED,
            "web(0, 10, 0, 0, 0) = 0; web(0, 300, 0, 0, 0) = 1; web(0, 9, 0, 0, 0) = throws.IllegalArgumentException",
            "web(0, 301, 0, 0, 0) = throws.IllegalArgumentException; cut(0, 5, 0) = 2; cut(1, 100, 0) = 3");
        BOOK.holds("a lot, 0 to 99",
            LICENSED,
            "web(0, 10, 0, 0, 0) = 0; web(0, 10, 99, 0, 0) = 1; web(0, 10, -1, 0, 0) = throws.IllegalArgumentException",
            "web(0, 10, 100, 0, 0) = throws.IllegalArgumentException",
            "cut(0, 10, 0); cut(1, 8, 0); wall(2, 5); hang(0, 99) = 1; lengthOf(1) = 3; lengthOf(0) = 10; hang(0, 0) = 1; lengthOf(0) = 5");
        BOOK.holds("At most 10 webs are numbered from 0",
            LICENSED,
            "web(0, 10, 0, 0, 0) = 0; web(0, 11, 0, 0, 0) = 1; web(0, 12, 0, 0, 0) = 2; web(0, 13, 0, 0, 0) = 3; web(0, 14, 0, 0, 0) = 4",
            "web(0, 15, 0, 0, 0) = 5",
            "web(0, 16, 0, 0, 0) = 6; web(0, 17, 0, 0, 0) = 7; web(0, 18, 0, 0, 0) = 8; web(0, 19, 0, 0, 0) = 9",
            "web(0, 10, 0, 0, 0) = throws.IllegalStateException; mark(9, 18, 1) = 1; mark(0, 9, 1) = 1",
            "mark(10, 0, 1) = throws.IndexOutOfBoundsException");
    }

    private static void shadesOfTerms() {
        BOOK.holds("a shade, in hundredths", LICENSED, "web(0, 10, 0, 125, 0); cut(0, 10, 0); shadeBits(0) = " + bits(1.25f));
        BOOK.holds("plus the drift, divided by 1000, as a float",
            LICENSED, "web(0, 10, 0, 100, 1); web(0, 10, 0, 100, -1); mark(0, 0, 1); mark(1, 0, 1); cut(0, 9, 0) = 1; cut(1, 9, 0) = 1",
            "placeOf(0) = 1; shadeBits(0) = " + bits(1f + 0.001f), "shadeBits(1) = " + bits(1f - 0.001f));
        BOOK.holds("and a drift, in thousandths", LICENSED, "web(0, 20, 0, 0, 125); cut(0, 10, 0); shadeBits(0) = 0; shadeBits(1) = " + bits(1.25f));
        int[][] shadesAndDrifts = {
            {0, 0}, {-9999, 999}, {9999, -999}, {9999, 999}, {-9999, -999}, {1, 1}, {-1, 1}, {1, -1}, {333, 7}, {0, -1}, {-50, 50}, {-7, 70}};
        for (int[] each : shadesAndDrifts) {
            StringBuilder script = new StringBuilder(LICENSED + "web(0, 300, 0, " + each[0] + ", " + each[1] + "); cut(0, 5, 0) = 60;");
            for (int roll = 0; roll < 60; roll++) {
                script.append("shadeBits(").append(roll).append(") = ").append(bitsAt(each[0], each[1], 5 * roll)).append(';');
            }
            BOOK.holds("at the place 0, the shade is that, divided by 100, as a float, and at each further place the one ahead plus the drift",
                script.toString());
        }
    }

    private static void faultsOfTerms() {
        BOOK.holds("A fault is marked on a web that is not cut",
            LICENSED,
            "web(0, 10, 0, 0, 0); web(0, 10, 0, 0, 0); mark(0, 3, 1) = 1; cut(0, 10, 0) = 0; mark(0, 3, 1) = throws.UnsupportedOperationException",
            "mark(1, 3, 1) = 1");
        BOOK.holds("at a place, 0 up to the length less 1",
            LICENSED,
            "web(0, 10, 0, 0, 0); web(0, 300, 0, 0, 0); mark(0, 0, 1) = 1; mark(0, 9, 1) = 1; mark(0, 10, 1) = throws.IndexOutOfBoundsException",
            "mark(0, -1, 1) = throws.IndexOutOfBoundsException; mark(1, 299, 1) = 1; mark(1, 300, 1) = throws.IndexOutOfBoundsException");
        BOOK.holds("with 1 to 4 points more",
            LICENSED,
            "web(0, 10, 0, 0, 0); mark(0, 5, 1) = 1; mark(0, 5, 4) = 5; mark(0, 5, 0) = throws.IllegalArgumentException",
            "mark(0, 5, 5) = throws.IllegalArgumentException; mark(0, 5, 1) = 6; mark(0, 4, 2) = 2",
            "mark(0, 5, 4);".repeat(30), "mark(0, 5, 4) = 130");
    }

    private static void cutsOfTerms() {
        BOOK.holds("rolls of a length, 5 to 100",
            LICENSED,
            "web(0, 10, 0, 0, 0); web(0, 100, 0, 0, 0); cut(0, 4, 0) = throws.IllegalArgumentException",
            "cut(1, 101, 0) = throws.IllegalArgumentException; cut(0, 5, 0) = 2; cut(1, 100, 0) = 1; lengthOf(0) = 5; lengthOf(2) = 100");
        BOOK.holds("with at most so many points each, 0 to 20",
            LICENSED,
            "web(0, 10, 0, 0, 0); mark(0, 0, 1); cut(0, 10, -1) = throws.IllegalArgumentException",
            "cut(0, 10, 21) = throws.IllegalArgumentException; cut(0, 10, 0) = 0");
        BOOK.holds("with at most so many points each, 0 to 20", LICENSED, "web(0, 10, 0, 0, 0); mark(0, 0, 1); cut(0, 10, 1) = 1");
        BOOK.holds("with at most so many points each, 0 to 20", LICENSED, "web(0, 10, 0, 0, 0);", "mark(0, 9, 4);".repeat(5), "cut(0, 10, 20) = 1");
        BOOK.holds("with at most so many points each, 0 to 20",
            LICENSED, "web(0, 10, 0, 0, 0);", "mark(0, 9, 4);".repeat(5), "mark(0, 0, 1); cut(0, 10, 20) = 0");
        BOOK.holds("with at most so many points each, 0 to 20",
            LICENSED, "web(0, 20, 0, 0, 0); mark(0, 9, 4); mark(0, 10, 4); cut(0, 10, 4) = 2; placeOf(0) = 0; placeOf(1) = 10");
        BOOK.holds("with at most so many points each, 0 to 20", LICENSED, "web(0, 20, 0, 0, 0); mark(0, 9, 4); mark(0, 10, 4); cut(0, 10, 3) = 0");
        BOOK.holds("makes as many as can be",
            LICENSED, "web(0, 29, 0, 0, 0); web(0, 30, 0, 0, 0); cut(0, 10, 0) = 2; cut(1, 10, 0) = 3; placeOf(4) = 20");
        BOOK.holds("makes as many as can be", LICENSED, "web(0, 25, 0, 0, 0); mark(0, 2, 3); cut(0, 11, 2) = 2; placeOf(0) = 3; placeOf(1) = 14");
        BOOK.holds("makes as many as can be", LICENSED, "web(0, 24, 0, 0, 0); mark(0, 2, 3); cut(0, 11, 2) = 1; placeOf(0) = 3");
        BOOK.holds("none over another one",
            LICENSED,
            "web(0, 40, 0, 0, 0); mark(0, 12, 2); mark(0, 14, 1); mark(0, 33, 4); mark(0, 3, 1); cut(0, 10, 2) = 3; placeOf(0) = 0",
            "placeOf(1) = 13; placeOf(2) = 23");
        BOOK.holds("of all ways the one in which the first roll begins earliest", LICENSED, "web(0, 19, 0, 0, 0); cut(0, 10, 0) = 1; placeOf(0) = 0");
        BOOK.holds("of all ways the one in which the first roll begins earliest",
            LICENSED, "web(0, 19, 0, 0, 0); mark(0, 0, 1); cut(0, 10, 0) = 1; placeOf(0) = 1");
        BOOK.holds("of all ways the one in which the first roll begins earliest",
            LICENSED, "web(0, 19, 0, 0, 0); mark(0, 8, 1); cut(0, 10, 0) = 1; placeOf(0) = 9");
        BOOK.holds("then the second one, and so on",
            LICENSED,
            "web(0, 50, 0, 0, 0); mark(0, 15, 1); mark(0, 31, 1); cut(0, 7, 0) = 6; placeOf(0) = 0; placeOf(1) = 7; placeOf(2) = 16",
            "placeOf(3) = 23; placeOf(4) = 32; placeOf(5) = 39");
        BOOK.holds("a web of which none can be made is cut, too",
            LICENSED,
            "web(0, 30, 0, 0, 0); cut(0, 31, 20) = 0; cut(0, 5, 0) = throws.UnsupportedOperationException",
            "mark(0, 0, 1) = throws.UnsupportedOperationException; rolls() = 0");
    }

    private static void rollsOfTerms() {
        BOOK.holds("At most 60 rolls are numbered from 0",
            LICENSED,
            "web(0, 300, 0, 0, 0); web(0, 10, 0, 0, 0); cut(0, 5, 0) = 60; rolls() = 60; cut(1, 10, 0) = throws.IllegalStateException",
            "placeOf(59) = 295; placeOf(60) = throws.IndexOutOfBoundsException");
        BOOK.holds("of all webs, in the order in which they are cut",
            LICENSED,
            "web(0, 30, 0, 0, 0); web(0, 30, 0, 0, 0); cut(1, 13, 0) = 2; cut(0, 15, 0) = 2; lengthOf(0) = 13; lengthOf(1) = 13; lengthOf(2) = 15",
            "lengthOf(3) = 15");
        BOOK.holds("those of one web by their places",
            CUT, "cut(1, 6, 0) = 3; placeOf(0) = 0; placeOf(1) = 10; placeOf(2) = 0; placeOf(3) = 6; placeOf(4) = 12");
        BOOK.holds("each has the lot and colourway of its web",
            "motif(2, 2, 's'); colourway(0); colourway(0); licence(0, 0, 0); web(1, 10, 7, 0, 0); cut(0, 10, 0); approve(1, 0); matches(0) = true",
            "approve(0, 100); approve(1, 51); matches(0) = false",
            "wall(2, 4); hang(0, 7) = throws.NoSuchElementException; hang(1, 6) = throws.NoSuchElementException; hang(1, 7) = 1; lengthOf(0) = 6");
        BOOK.holds("its length, and the shade at its first place",
            LICENSED,
            "web(0, 30, 0, 100, 100); mark(0, 0, 1); cut(0, 9, 0) = 3; lengthOf(0) = 9; lengthOf(2) = 9; shadeBits(0) = " + bitsAt(100, 100, 1),
            "shadeBits(1) = " + bitsAt(100, 100, 10), "shadeBits(2) = " + bitsAt(100, 100, 19));
    }

    private static void standardsOfTerms() {
        BOOK.holds("makes it its standard from this day on",
            LICENSED, "colourway(0); approve(0, 100); days(1); approve(1, 100); standardBits(0) = " + bits(1f * 0.99f),
            "standardBits(1) = " + bits(1f));
        BOOK.holds("makes it its standard from this day on", LICENSED, "approve(0, 100); days(5); approve(0, -40); standardBits(0) = " + bits(-0.4f));
        BOOK.holds("in hundredths, as a float divided by 100",
            LICENSED, "approve(0, 1); standardBits(0) = " + bits(0.01f),
            "approve(0, 0); standardBits(0) = 0; approve(0, -9999); standardBits(0) = " + bits(-99.99f),
            "approve(0, 9999); standardBits(0) = " + bits(99.99f));
        BOOK.holds("each day that goes by makes of each standard itself times 0.99f",
            LICENSED, "colourway(0); approve(0, 100); approve(1, -333); days(1); standardBits(0) = " + bits(0.99f),
            "days(2); standardBits(0) = " + bits(0.99f * 0.99f * 0.99f), "standardBits(1) = " + bits(-3.33f * 0.99f * 0.99f * 0.99f));
        BOOK.holds("each day that goes by makes of each standard itself times 0.99f",
            LICENSED, "approve(0, 0); days(99); standardBits(0) = 0; colourway(0); days(3); standardBits(1) = throws.NoSuchElementException");
        BOOK.holds("each day that goes by makes of each standard itself times 0.99f", fadingAway(-9999));
        BOOK.holds("each day that goes by makes of each standard itself times 0.99f", fadingAway(9999));
        BOOK.holds("each day that goes by makes of each standard itself times 0.99f", fadingAway(1));
    }

    /** On all the days that there are a standard falls far below the least ordinary float. */
    private static String fadingAway(int shade) {
        StringBuilder script = new StringBuilder(LICENSED + "approve(0, " + shade + ");");
        float standard = shade / 100f;
        for (int turn = 0; turn < 101; turn++) {
            for (int day = 0; day < 99; day++) {
                standard *= 0.99f;
            }
            script.append("days(99); standardBits(0) = ").append(bits(standard)).append(';');
        }
        return script.toString();
    }

    private static void matchesOfTerms() {
        String high = LICENSED + "web(0, 10, 0, 100, 0); cut(0, 10, 0);";
        String low = LICENSED + "web(0, 10, 0, -100, 0); cut(0, 10, 0);";
        BOOK.holds("no more than 0.5f from the standard, above",
            high,
            "approve(0, 50); matches(0) = true; approve(0, 49); matches(0) = false; approve(0, 100); matches(0) = true; approve(0, -100)",
            "matches(0) = false");
        BOOK.holds("above or below",
            high, "approve(0, 150); matches(0) = true; approve(0, 151); matches(0) = false; approve(0, 9999); matches(0) = false");
        BOOK.holds("no more than 0.5f from the standard",
            low,
            "approve(0, -50); matches(0) = true; approve(0, -49); matches(0) = false; approve(0, -150); matches(0) = true; approve(0, -151)",
            "matches(0) = false; approve(0, 100); matches(0) = false");
        BOOK.holds("no more than 0.5f from the standard",
            high,
            "approve(0, 150); days(1); matches(0) = true; approve(0, 50); days(1); matches(0) = false; approve(0, 151); days(1); matches(0) = true");
    }

    private static void licence() {
        BOOK.open("Promise 28");
        BOOK.holds("Gives a licence, in place of an earlier one",
            "motif(2, 2, 's'); colourway(0); licence(0, 0, 5) = -1; web(0, 10, 0, 0, 0) = 0; licence(0, 6, 7) = 5",
            "web(0, 10, 0, 0, 0) = throws.UnsupportedOperationException; licence(0, 0, 0) = 7; web(0, 10, 0, 0, 0) = 1");
        BOOK.holds("`motif`: the motif",
            "motif(2, 2, 's');".repeat(6),
            "colourway(5); colourway(0); licence(5, 0, 3) = -1; web(0, 10, 0, 0, 0) = 0",
            "web(1, 10, 0, 0, 0) = throws.UnsupportedOperationException; licence(0, 0, 4) = -1; licence(5, 0, 9) = 3");
        BOOK.holds("`from`: the first day, 0 to 9999",
            "motif(2, 2, 's'); licence(0, 0, 9999) = -1; licence(0, 9999, 9999) = 9999; licence(0, -1, 9999) = throws.IllegalArgumentException",
            "licence(0, 10000, 10000) = throws.IllegalArgumentException");
        BOOK.holds("`to`: the last day, not below",
            "motif(2, 2, 's'); licence(0, 5, 5) = -1; licence(0, 5, 4) = throws.IllegalArgumentException; licence(0, 0, 0) = 5",
            "licence(0, 0, -1) = throws.IllegalArgumentException; licence(0, 0, 1) = 0");
        BOOK.holds("`to`: the last day, not below",
            "motif(2, 2, 's'); licence(0, 9999, 10000) = -1; licence(0, 0, 2147483647) = 10000; licence(0, 0, 0) = 2147483647");
        BOOK.holds("Returns the last day of the one before, -1 for none",
            "motif(2, 2, 's'); motif(2, 2, 's'); licence(0, 3, 7) = -1; licence(0, 4, 6) = 7; licence(1, 0, 0) = -1; licence(1, 0, 0) = 0",
            "licence(0, 0, 0) = 6");
        BOOK.refuses(Book.NONE_SUCH, "no such motif",
            "motif(2, 2, 's'); licence(0, 1, 2)", "licence(1, 0, 0); licence(-1, 0, 0); licence(2147483647, 0, 0); licence(-2147483648, 0, 0)");
        BOOK.refuses(Book.WRONG, "a number is out of range",
            "motif(2, 2, 's'); colourway(0); licence(0, 0, 2)",
            "licence(0, 2147483647, 2147483647); licence(0, -2147483648, 0); licence(0, 1, -2147483648); licence(0, 9999, 9998); licence(0, 1, 0)");
        BOOK.refuses(Book.NONE_SUCH, "Throws `IndexOutOfBoundsException`",
            "motif(2, 2, 's')", "licence(1, -1, 0); licence(-1, 10000, 10000); licence(1, 5, 4)");
    }

    private static void days() {
        BOOK.open("Promise 29");
        BOOK.holds("Lets days go by", "motif(2, 2, 's'); colourway(0); licence(0, 99, 99); approve(0, 100); days(99) = 99; web(0, 10, 0, 0, 0) = 0");
        BOOK.holds("`days`: 1 to 99",
            "days(1) = 1; days(99) = 100; days(0) = throws.IllegalArgumentException; days(100) = throws.IllegalArgumentException; days(1) = 101");
        BOOK.holds("Returns the day then", "days(1) = 1; days(5) = 6; days(50) = 56; days(99) = 155");
        BOOK.refuses(Book.WRONG, "it is out of range", "days(7)", "days(0); days(-1); days(100); days(2147483647); days(-2147483648)");
        BOOK.holds("it would be above 9999",
            LAST_DAY.replaceFirst("99", "98"),
            "days(2) = throws.IllegalStateException; days(99) = throws.IllegalStateException; days(1) = 9999",
            "days(1) = throws.IllegalStateException");
        BOOK.holds("it would be above 9999", LAST_DAY.replaceFirst("99", "1"), "days(99) = throws.IllegalStateException; days(98) = 9999");
        BOOK.refuses(Book.FULL, "it would be above 9999", LAST_DAY, "days(1); days(99)");
        BOOK.refuses(Book.FULL, "it would be above 9999", LICENSED + "approve(0, 100);" + LAST_DAY, "days(1)");
        BOOK.refuses(Book.WRONG, "Throws `IllegalArgumentException`", LAST_DAY, "days(0); days(100); days(2147483647); days(-1)");
    }

    private static void web() {
        BOOK.open("Promise 30");
        BOOK.holds("Prints a web", LICENSED, "web(0, 12, 3, 50, -10) = 0; cut(0, 5, 0) = 2; shadeBits(1) = " + bitsAt(50, -10, 5), "rolls() = 2");
        BOOK.holds("`colourway`: the colourway",
            "motif(2, 2, 's'); licence(0, 0, 0);", "colourway(0);".repeat(8),
            "web(7, 10, 0, 0, 0) = 0; cut(0, 10, 0); approve(7, 0); matches(0) = true; web(8, 10, 0, 0, 0) = throws.IndexOutOfBoundsException");
        BOOK.holds("`length`: 10 to 300",
            LICENSED,
            "web(0, 10, 0, 0, 0) = 0; web(0, 300, 0, 0, 0) = 1; mark(0, 9, 1) = 1; mark(0, 10, 1) = throws.IndexOutOfBoundsException",
            "mark(1, 299, 1) = 1; mark(1, 300, 1) = throws.IndexOutOfBoundsException");
        BOOK.holds("`lot`: 0 to 99", LICENSED, "web(0, 10, 0, 0, 0) = 0; web(0, 10, 99, 0, 0) = 1");
        BOOK.holds("`shade`: the shade, -9999 to 9999",
            LICENSED, "web(0, 10, 0, -9999, 0) = 0; web(0, 10, 0, 9999, 0) = 1; cut(0, 10, 0); cut(1, 10, 0); shadeBits(0) = " + bits(-99.99f),
            "shadeBits(1) = " + bits(99.99f));
        BOOK.holds("`drift`: the drift, -999 to 999",
            LICENSED,
            "web(0, 10, 0, 0, -999) = 0; web(0, 10, 0, 0, 999) = 1; mark(0, 0, 1); mark(1, 0, 1); cut(0, 5, 0); cut(1, 5, 0); shadeBits(0) = "
                + bits(-0.999f),
            "shadeBits(1) = " + bits(0.999f));
        BOOK.holds("Returns its number",
            LICENSED,
            "web(0, 10, 0, 0, 0) = 0; web(0, 9, 0, 0, 0) = throws.IllegalArgumentException; web(0, 10, 0, 0, 0) = 1; cut(0, 10, 0)",
            "web(0, 10, 0, 0, 0) = 2");
    }

    private static void webRefused() {
        BOOK.refuses(Book.NONE_SUCH, NO_COLOURWAY,
            LICENSED, "web(1, 10, 0, 0, 0); web(-1, 10, 0, 0, 0); web(2147483647, 10, 0, 0, 0); web(-2147483648, 10, 0, 0, 0)");
        BOOK.refuses(Book.WRONG, "a number is out of range",
            LICENSED,
            "web(0, 9, 0, 0, 0); web(0, 301, 0, 0, 0); web(0, 10, -1, 0, 0); web(0, 10, 100, 0, 0); web(0, 10, 0, -10000, 0);"
                + "web(0, 10, 0, 10000, 0); web(0, 10, 0, 0, -1000); web(0, 10, 0, 0, 1000)");
        BOOK.refuses(Book.WRONG, "a number is out of range",
            LICENSED,
            "web(0, 0, 0, 0, 0); web(0, -2147483648, 0, 0, 0); web(0, 2147483647, 0, 0, 0); web(0, 10, 2147483647, 0, 0);"
                + "web(0, 10, 0, -2147483648, 0); web(0, 10, 0, 0, 2147483647)");
        BOOK.refuses(Book.UNFIT, "if the colourway is not whole", NOT_WHOLE, "web(0, 10, 0, 0, 0)");
        BOOK.refuses(Book.UNFIT, "or its motif has no licence for the day", "motif(2, 2, 's'); colourway(0)", "web(0, 10, 0, 0, 0)");
        BOOK.refuses(Book.UNFIT, "or its motif has no licence for the day",
            "motif(2, 2, 's'); colourway(0); licence(0, 1, 2)", "web(0, 10, 0, 0, 0)");
        BOOK.refuses(Book.UNFIT, "or its motif has no licence for the day",
            "motif(2, 2, 's'); colourway(0); licence(0, 1, 2); days(3)", "web(0, 10, 0, 0, 0)");
        BOOK.refuses(Book.FULL, "if there are 10", TEN_WEBS, "web(0, 10, 0, 0, 0); web(0, 300, 99, 9999, -999)");
        BOOK.refuses(Book.FULL, "if there are 10", TEN_WEBS + "cut(0, 10, 0); cut(9, 10, 0)", "web(0, 10, 0, 0, 0)");
        BOOK.refuses(Book.NONE_SUCH, "Throws `IndexOutOfBoundsException`",
            NOT_WHOLE, "web(1, 9, 0, 0, 0); web(-1, 10, 100, 0, 0); web(1, 10, 0, 10000, 0); web(1, 10, 0, 0, 1000)");
        BOOK.refuses(Book.NONE_SUCH, "Throws `IndexOutOfBoundsException`", TEN_WEBS, "web(1, 10, 0, 0, 0)");
        BOOK.refuses(Book.WRONG, "Throws `IllegalArgumentException`",
            NOT_WHOLE, "web(0, 9, 0, 0, 0); web(0, 10, -1, 0, 0); web(0, 10, 0, 10000, 0); web(0, 10, 0, 0, -1000)");
        BOOK.refuses(Book.WRONG, "Throws `IllegalArgumentException`",
            "motif(2, 2, 's'); colourway(0)", "web(0, 301, 0, 0, 0); web(0, 10, 100, 0, 0); web(0, 10, 0, -10000, 0); web(0, 10, 0, 0, 1000)");
        BOOK.refuses(Book.WRONG, "Throws `IllegalArgumentException`",
            TEN_WEBS, "web(0, 9, 0, 0, 0); web(0, 10, 100, 0, 0); web(0, 10, 0, -10000, 0); web(0, 10, 0, 0, 1000)");
        BOOK.refuses(Book.UNFIT, "Throws `UnsupportedOperationException`", TEN_WEBS + "paint(0, 0, 0, 1, 1, 1)", "web(0, 10, 0, 0, 0)");
        BOOK.refuses(Book.UNFIT, "Throws `UnsupportedOperationException`", TEN_WEBS + "licence(0, 1, 1)", "web(0, 10, 0, 0, 0)");
    }

    private static void mark() {
        BOOK.open("Promise 31");
        BOOK.holds("Marks a fault", CUT, "mark(1, 7, 3) = 3; cut(1, 8, 2) = 1; placeOf(2) = 8");
        BOOK.holds("`web`: the web", TEN_WEBS, "mark(9, 0, 2) = 2; mark(0, 0, 1) = 1; mark(8, 0, 1) = 1; mark(9, 0, 1) = 3");
        BOOK.holds("`place`: the place",
            CUT,
            "mark(1, 0, 1) = 1; mark(1, 19, 2) = 2; mark(1, 18, 1) = 1; mark(1, 20, 1) = throws.IndexOutOfBoundsException",
            "mark(1, -1, 1) = throws.IndexOutOfBoundsException");
        BOOK.holds("`points`: 1 to 4",
            CUT,
            "mark(1, 0, 1) = 1; mark(1, 1, 4) = 4; mark(1, 0, 0) = throws.IllegalArgumentException; mark(1, 0, 5) = throws.IllegalArgumentException");
        BOOK.holds("Returns the points of the place then",
            CUT, "mark(1, 3, 4) = 4; mark(1, 3, 3) = 7; mark(1, 3, 1) = 8; mark(1, 4, 1) = 1; mark(1, 3, 2) = 10");
        BOOK.refuses(Book.NONE_SUCH, "no such web or place",
            CUT,
            "mark(2, 0, 1); mark(-1, 0, 1); mark(2147483647, 0, 1); mark(1, 20, 1); mark(1, -1, 1); mark(1, 2147483647, 1); mark(1, -2147483648, 1)");
        BOOK.refuses(Book.WRONG, "the points are out of range",
            CUT, "mark(1, 0, 0); mark(1, 0, 5); mark(1, 0, -1); mark(1, 19, 2147483647); mark(1, 0, -2147483648)");
        BOOK.refuses(Book.UNFIT, "the web is cut", CUT, "mark(0, 0, 1); mark(0, 19, 4)");
        BOOK.refuses(Book.NONE_SUCH, "Throws `IndexOutOfBoundsException`",
            CUT, "mark(2, 0, 0); mark(-1, 0, 5); mark(1, 20, 0); mark(1, -1, 5); mark(0, 20, 1); mark(0, -1, 1); mark(0, 20, 5)");
        BOOK.refuses(Book.WRONG, "Throws `IllegalArgumentException`", CUT, "mark(0, 0, 0); mark(0, 19, 5)");
    }

    private static void cut() {
        BOOK.open("Promise 32");
        BOOK.holds("Cuts a web into rolls", CUT, "cut(1, 7, 0) = 2; rolls() = 4; placeOf(3) = 7; lengthOf(3) = 7");
        BOOK.holds("`web`: the web", TEN_WEBS, "mark(0, 0, 1); cut(9, 10, 0) = 1; cut(0, 10, 0) = 0; cut(8, 5, 0) = 2");
        BOOK.holds("`length`: 5 to 100",
            LICENSED, "web(0, 10, 0, 0, 0); web(0, 300, 0, 0, 0); web(0, 99, 0, 0, 0); cut(0, 5, 0) = 2; cut(1, 100, 0) = 3; cut(2, 100, 0) = 0");
        BOOK.holds("`most`: the most points, 0 to 20",
            LICENSED, "web(0, 10, 0, 0, 0); web(0, 10, 0, 0, 0);", "mark(0, 9, 4);".repeat(5),
            "mark(1, 0, 1); cut(0, 10, 20) = 1; cut(1, 10, 0) = 0");
        BOOK.holds("Returns how many rolls", LICENSED, "web(0, 10, 0, 0, 0); web(0, 300, 0, 0, 0); cut(0, 11, 0) = 0; cut(1, 5, 0) = 60");
    }

    private static void cutRefused() {
        BOOK.refuses(Book.NONE_SUCH, "no such web", CUT, "cut(2, 5, 0); cut(-1, 5, 0); cut(2147483647, 5, 0); cut(-2147483648, 5, 0)");
        BOOK.refuses(Book.WRONG, "a number is out of range",
            CUT,
            "cut(1, 4, 0); cut(1, 101, 0); cut(1, 5, -1); cut(1, 5, 21); cut(1, 0, 0); cut(1, -2147483648, 0); cut(1, 2147483647, 0);"
                + "cut(1, 5, 2147483647); cut(1, 5, -2147483648)");
        BOOK.refuses(Book.UNFIT, "if it is cut", CUT, "cut(0, 10, 0); cut(0, 5, 20)");
        BOOK.refuses(Book.UNFIT, "if it is cut", LICENSED + "web(0, 10, 0, 0, 0); cut(0, 11, 0)", "cut(0, 10, 0)");
        BOOK.refuses(Book.FULL, "there would be more than 60 rolls", ALMOST_FULL, "cut(1, 5, 0)");
        BOOK.holds("there would be more than 60 rolls",
            ALMOST_FULL,
            "cut(1, 5, 0) = throws.IllegalStateException; mark(1, 0, 1) = 1; cut(1, 5, 0) = 1; rolls() = 60; web(0, 10, 0, 0, 0) = 2",
            "cut(2, 5, 0) = throws.IllegalStateException; cut(2, 11, 0) = 0; rolls() = 60");
        BOOK.holds("there would be more than 60 rolls", ALMOST_FULL, "cut(1, 6, 0) = 1; rolls() = 60");
        BOOK.refuses(Book.NONE_SUCH, "Throws `IndexOutOfBoundsException`", ALMOST_FULL, "cut(2, 4, 0); cut(-1, 5, 21); cut(2, 5, 0)");
        BOOK.refuses(Book.WRONG, "Throws `IllegalArgumentException`",
            ALMOST_FULL, "cut(0, 4, 0); cut(0, 101, 0); cut(0, 5, -1); cut(0, 5, 21); cut(1, 4, 0); cut(1, 5, 21)");
        BOOK.refuses(Book.UNFIT, "Throws `UnsupportedOperationException`", ALMOST_FULL, "cut(0, 5, 0)");
    }

    private static void rolls() {
        BOOK.open("Promise 33");
        BOOK.holds("Returns how many rolls there are", "rolls() = 0;", CUT, "rolls() = 2; cut(1, 5, 0); rolls() = 6");
        BOOK.holds("Returns how many.",
            CUT, "wall(2, 10); hang(0, 0) = 1; lengthOf(0) = 0; rolls() = 2; cut(0, 5, 0) = throws.UnsupportedOperationException; rolls() = 2");
        BOOK.open("Promise 34");
        BOOK.holds("Returns where in its web a roll began", CUT, "mark(1, 4, 1); cut(1, 5, 0) = 3; placeOf(2) = 5; placeOf(3) = 10; placeOf(4) = 15");
        BOOK.holds("`roll`: the roll",
            LICENSED,
            "web(0, 300, 0, 0, 0); cut(0, 5, 0); placeOf(0) = 0; placeOf(1) = 5; placeOf(59) = 295; placeOf(60) = throws.IndexOutOfBoundsException");
        BOOK.holds("Returns the place", CUT, "wall(2, 7); hang(0, 0); hang(0, 0); lengthOf(1) = 3; placeOf(0) = 0; placeOf(1) = 10");
        BOOK.refuses(Book.NONE_SUCH, NO_ROLL, CUT, "placeOf(2); placeOf(-1); placeOf(2147483647); placeOf(-2147483648)");
        BOOK.open("Promise 35");
        BOOK.holds("Returns how much is left of a roll", CUT, "lengthOf(0) = 10; wall(2, 3); hang(0, 0); lengthOf(0) = 7; lengthOf(1) = 10");
        BOOK.holds("`roll`: the roll",
            LICENSED,
            "web(0, 295, 0, 0, 0); web(0, 10, 0, 0, 0); cut(0, 5, 0); cut(1, 7, 0); lengthOf(0) = 5; lengthOf(58) = 5; lengthOf(59) = 7",
            "lengthOf(60) = throws.IndexOutOfBoundsException");
        BOOK.holds("Returns the length, perhaps 0", CUT, "wall(2, 10); hang(0, 0); lengthOf(0) = 0; lengthOf(1) = 10; hang(0, 0); lengthOf(1) = 0");
        BOOK.refuses(Book.NONE_SUCH, NO_ROLL, CUT, "lengthOf(2); lengthOf(-1); lengthOf(2147483647); lengthOf(-2147483648)");
        BOOK.open("Promise 36");
        BOOK.holds("Returns the shade of a roll", CUT, "shadeBits(0) = " + bits(1f), "shadeBits(1) = " + bits(1f), "cut(1, 20, 0); shadeBits(2) = 0");
        BOOK.holds("`roll`: the roll",
            LICENSED, "web(0, 300, 0, -300, 12); cut(0, 5, 0); shadeBits(0) = " + bits(-3f), "shadeBits(59) = " + bitsAt(-300, 12, 295),
            "shadeBits(60) = throws.IndexOutOfBoundsException");
        BOOK.holds("Returns the bits of the float",
            CUT, "wall(2, 10); hang(0, 0); days(9); shadeBits(0) = " + bits(1f),
            "web(0, 10, 0, 1, 0); web(0, 10, 0, -1, 0); cut(2, 10, 0); cut(3, 10, 0); shadeBits(2) = " + bits(0.01f),
            "shadeBits(3) = " + bits(-0.01f));
        BOOK.refuses(Book.NONE_SUCH, NO_ROLL, CUT, "shadeBits(2); shadeBits(-1); shadeBits(2147483647); shadeBits(-2147483648)");
    }

    private static void approve() {
        String eight = "motif(2, 2, 's');" + "colourway(0);".repeat(8);
        BOOK.open("Promise 37");
        BOOK.holds("Approves a shade",
            LICENSED, "approve(0, 125) = 1; standardBits(0) = " + bits(1.25f), "approve(0, -30) = 1; standardBits(0) = " + bits(-0.3f));
        BOOK.holds("Approves a shade", NOT_WHOLE, "approve(0, 125) = 1; standardBits(0) = " + bits(1.25f));
        BOOK.holds("`colourway`: the colourway",
            eight, "approve(7, 100) = 1; standardBits(7) = " + bits(1f),
            "standardBits(6) = throws.NoSuchElementException; approve(8, 0) = throws.IndexOutOfBoundsException");
        BOOK.holds("`shade`: -9999 to 9999",
            LICENSED, "approve(0, -9999) = 1; standardBits(0) = " + bits(-99.99f), "approve(0, 9999) = 1; standardBits(0) = " + bits(99.99f),
            "approve(0, 10000) = throws.IllegalArgumentException; approve(0, -10000) = throws.IllegalArgumentException");
        BOOK.holds("Returns how many colourways have a standard",
            eight,
            "approve(0, 1) = 1; approve(3, 0) = 2; approve(0, 2) = 2; approve(7, 1) = 3; approve(1, 1) = 4; approve(2, 1) = 5; approve(4, 1) = 6",
            "approve(5, 1) = 7; approve(6, 1) = 8; days(99); approve(6, 0) = 8");
        BOOK.refuses(Book.NONE_SUCH, NO_COLOURWAY, LICENSED, "approve(1, 0); approve(-1, 0); approve(2147483647, 0); approve(-2147483648, 0)");
        BOOK.refuses(Book.WRONG, "it is out of range",
            LICENSED + "approve(0, 5)", "approve(0, 10000); approve(0, -10000); approve(0, 2147483647); approve(0, -2147483648)");
        BOOK.refuses(Book.WRONG, "it is out of range", LICENSED, "approve(0, 10000); approve(0, -10000)");
        BOOK.refuses(Book.NONE_SUCH, "Throws `IndexOutOfBoundsException`", LICENSED, "approve(1, 10000); approve(-1, -10000)");
    }

    private static void standardBits() {
        BOOK.open("Promise 38");
        BOOK.holds("Returns the standard of a colourway",
            LICENSED, "colourway(0); approve(0, 50); approve(1, -50); standardBits(0) = " + bits(0.5f), "standardBits(1) = " + bits(-0.5f));
        BOOK.holds("`colourway`: the colourway",
            "motif(2, 2, 's');", "colourway(0);".repeat(8), "approve(7, 3); standardBits(7) = " + bits(0.03f),
            "standardBits(8) = throws.IndexOutOfBoundsException");
        BOOK.holds("Returns the bits of the float",
            LICENSED, "approve(0, 0); standardBits(0) = 0; approve(0, 9999); days(1); standardBits(0) = " + bits(99.99f * 0.99f));
        BOOK.refuses(Book.NONE_SUCH, NO_COLOURWAY,
            LICENSED + "approve(0, 1)", "standardBits(1); standardBits(-1); standardBits(2147483647); standardBits(-2147483648)");
        BOOK.refuses(Book.MISSING, "if it has none", LICENSED, "standardBits(0)");
        BOOK.refuses(Book.MISSING, "if it has none", LICENSED + "colourway(0); approve(1, 0); days(1)", "standardBits(0)");
    }

    private static void matches() {
        BOOK.open("Promise 39");
        BOOK.holds("Returns whether a roll matches",
            CUT,
            "approve(0, 100); matches(0) = true; matches(1) = true; cut(1, 20, 0); matches(2) = false; approve(0, 50); matches(2) = true",
            "matches(0) = true");
        BOOK.holds("`roll`: the roll",
            LICENSED,
            "web(0, 300, 0, 0, 10); cut(0, 5, 0); approve(0, 0); matches(0) = true; matches(9) = true; matches(11) = false; matches(59) = false",
            "approve(0, 295); matches(59) = true; matches(48) = false");
        BOOK.holds("Returns true if so",
            CUT,
            "approve(0, 150); matches(0) = true; approve(0, 151); matches(0) = false; wall(2, 10); hang(0, 0); approve(0, 100); matches(0) = true");
        BOOK.refuses(Book.NONE_SUCH, NO_ROLL, CUT, "matches(2); matches(-1); matches(2147483647); matches(-2147483648)");
        BOOK.refuses(Book.NONE_SUCH, NO_ROLL, CUT + "approve(0, 100)", "matches(2); matches(-1)");
        BOOK.refuses(Book.MISSING, "its colourway has no standard", CUT, "matches(0); matches(1)");
        BOOK.refuses(Book.MISSING, "its colourway has no standard", CUT + "colourway(0); approve(1, 100)", "matches(0)");
    }
}
