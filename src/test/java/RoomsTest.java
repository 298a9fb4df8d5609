/** "Rooms" and the promises 44 to 50: walls, openings, strips and how a room is hung. */
public final class RoomsTest {
    private static final Book BOOK = new Book("RoomsTest");
    private static final String NARROW = "motif(4, 2, 's'); colourway(0);";
    private static final String SIX_WALLS = "wall(1, 1);".repeat(6);
    private static final String EIGHT_OPENINGS = "wall(20, 5); opening(0, 1); opening(2, 3); opening(4, 5); opening(6, 7); opening(8, 9);"
        + "opening(10, 11); opening(12, 13); opening(14, 15);";
    private static final String NO_COLOURWAY = "if there is no such colourway";

    private RoomsTest() {
    }

    public static void main(String[] args) {
        roomOfTerms();
        openingsOfTerms();
        stripsOfTerms();
        rollsOfTerms();
        placesOfTerms();
        cutsOfTerms();
        offsetOfTerms();
        whatIsGone();
        wall();
        opening();
        openingRefused();
        empties();
        strips();
        need();
        offset();
        hang();
        hangTheWidest();
        BOOK.end();
    }

    /** A house with one motif, its colourway 0 and one web of the lot 5, cut to rolls of one length. */
    private static String stock(String motif, int length, int roll) {
        return "motif(" + motif + "); colourway(0); licence(0, 0, 9999); web(0, " + length + ", 5, 0, 0); cut(0, " + roll + ", 0);";
    }

    /** A house with rolls of the lot 5 of the lengths that are told, each on a web of its own. */
    private static String rolls(String motif, int... lengths) {
        StringBuilder script = new StringBuilder("motif(" + motif + "); colourway(0); licence(0, 0, 9999);");
        for (int number = 0; number < lengths.length; number++) {
            script.append("web(0, ").append(Math.max(10, lengths[number])).append(", 5, 0, 0); mark(").append(number).append(", 0, 1);");
            int first = lengths[number] < 10 ? 1 : 0;
            script.append("cut(").append(number).append(", ").append(lengths[number]).append(", ").append(1 - first).append(") = 1;");
        }
        return script.toString();
    }

    private static void roomOfTerms() {
        BOOK.open("Rooms");
        BOOK.holds("A room is a row of at most 6 walls",
            "wall(3, 1) = 3; wall(4, 1) = 7; wall(5, 1) = 12; wall(6, 1) = 18; wall(7, 1) = 25; wall(8, 1) = 33",
            "wall(1, 1) = throws.IllegalStateException; empties() = 6");
        BOOK.holds("each 1 to 200 wide",
            "wall(1, 5) = 1; wall(200, 5) = 201; wall(0, 5) = throws.IllegalArgumentException; wall(201, 5) = throws.IllegalArgumentException",
            "empties() = 2");
        BOOK.holds("and 1 to 100 high",
            NARROW,
            "wall(4, 1) = 4; wall(4, 100) = 8; wall(4, 0) = throws.IllegalArgumentException; wall(4, 101) = throws.IllegalArgumentException",
            "need(0, 0) = 1; need(0, 1) = 100; strips(0) = 2");
    }

    private static void openingsOfTerms() {
        BOOK.holds("with at most 8 openings",
            EIGHT_OPENINGS,
            "opening(16, 17) = throws.IllegalStateException; wall(5, 5); opening(20, 25) = throws.IllegalStateException; empties(); wall(5, 5)",
            "opening(0, 1) = 1");
        BOOK.holds("each from a place along all walls to another one",
            "wall(10, 5); wall(10, 6); wall(10, 7); opening(0, 1) = 1; opening(8, 22) = 2; opening(29, 30) = 3",
            "opening(30, 31) = throws.IndexOutOfBoundsException; opening(28, 31) = throws.IndexOutOfBoundsException");
        BOOK.holds("each from a place along all walls to another one", "wall(1, 1); opening(0, 1) = 1; wall(1, 1); opening(1, 2) = 2");
        BOOK.holds("not over another opening",
            "wall(20, 5); opening(8, 12) = 1; opening(6, 8) = 2; opening(12, 20) = 3; opening(5, 7) = throws.UnsupportedOperationException",
            "opening(0, 6) = 4");
        BOOK.refuses(Book.UNFIT, "not over another opening",
            "wall(20, 5); opening(8, 12)",
            "opening(7, 9); opening(11, 13); opening(7, 13); opening(9, 10); opening(8, 12); opening(8, 9); opening(11, 12); opening(0, 20);"
                + "opening(0, 9)");
    }

    private static void stripsOfTerms() {
        BOOK.holds("strips as wide as its motif go along all walls from the place 0 on",
            "motif(4, 2, 's'); motif(5, 2, 'd'); motif(2, 3, 't'); colourway(0); colourway(1); colourway(2); wall(8, 3); wall(2, 3)",
            "strips(0) = 3; strips(1) = 2; strips(2) = 5");
        BOOK.holds("strips as wide as its motif go along all walls from the place 0 on",
            NARROW, "wall(3, 5); wall(2, 9); wall(4, 7); need(0, 0) = 9; need(0, 1) = 9; need(0, 2) = 7; strips(0) = 3");
        BOOK.holds("the last one perhaps beyond the end",
            NARROW,
            "wall(8, 3); strips(0) = 2; wall(1, 5); strips(0) = 3; need(0, 2) = 5; wall(2, 4); strips(0) = 3; need(0, 2) = 5; wall(1, 6)",
            "strips(0) = 3; need(0, 2) = 6; wall(1, 1); strips(0) = 4");
        BOOK.holds("the height of the highest wall that it has a part of",
            NARROW, "wall(5, 9); wall(2, 20); wall(6, 3); need(0, 0) = 9; need(0, 1) = 20; need(0, 2) = 3; need(0, 3) = 3");
        BOOK.holds("the height of the highest wall that it has a part of",
            NARROW, "wall(1, 2); wall(1, 1); wall(1, 100); wall(1, 3); need(0, 0) = 100; wall(3, 1); wall(1, 7); need(0, 1) = 7");
        BOOK.holds("openings aside",
            NARROW,
            "wall(5, 9); wall(2, 20); wall(6, 3); opening(5, 6); need(0, 1) = 20; opening(6, 7); need(0, 1) = 9; opening(4, 5); need(0, 1) = 3",
            "need(0, 0) = 9");
        BOOK.holds("one without such a part is not hung, but counted",
            NARROW,
            "wall(12, 9); opening(4, 8); need(0, 1) = 0; strips(0) = 3; need(0, 0) = 9; need(0, 2) = 9; opening(0, 4); opening(8, 12)",
            "strips(0) = 3; need(0, 2) = 0");
        BOOK.holds("one without such a part is not hung, but counted", NARROW, "wall(9, 9); opening(8, 9); strips(0) = 3; need(0, 2) = 0");
        BOOK.holds("one without such a part is not hung, but counted",
            stock("2, 4, 'd'", 20, 20), "wall(6, 2); opening(2, 4); hang(0, 5) = 1; lengthOf(0) = 14");
    }

    private static void rollsOfTerms() {
        BOOK.holds("from the rolls of a lot and colourway",
            stock("2, 2, 's'", 10, 5),
            "colourway(0); web(1, 10, 5, 0, 0); web(0, 10, 6, 0, 0); web(0, 10, 5, 0, 0); cut(1, 5, 0); cut(2, 5, 0); cut(3, 5, 0); wall(6, 5)",
            "hang(0, 5) = 3",
            "lengthOf(0) = 0; lengthOf(1) = 0; lengthOf(2) = 5; lengthOf(3) = 5; lengthOf(4) = 5; lengthOf(5) = 5; lengthOf(6) = 0; lengthOf(7) = 5");
        BOOK.holds("of which something is left",
            stock("2, 2, 's'", 20, 5),
            "wall(4, 5); hang(0, 5) = 2; lengthOf(1) = 0; hang(0, 5) = 2; lengthOf(3) = 0; hang(0, 5) = throws.NoSuchElementException");
        BOOK.holds("of which something is left",
            stock("2, 2, 's'", 18, 6),
            "wall(2, 5); hang(0, 5) = 1; lengthOf(0) = 1; hang(0, 5) = 2; lengthOf(0) = 1; lengthOf(1) = 1; hang(0, 5) = 3; lengthOf(2) = 1");
        BOOK.holds("by numbers",
            stock("2, 2, 's'", 20, 10).replace("cut(0, 10, 0)", "web(0, 30, 5, 0, 0); cut(1, 15, 0); cut(0, 10, 0)"),
            "wall(2, 9); hang(0, 5) = 1; lengthOf(0) = 6; lengthOf(1) = 15; lengthOf(2) = 10; hang(0, 5) = 2; lengthOf(0) = 6; lengthOf(1) = 6");
        BOOK.holds("from the beginning of each on", stock("2, 2, 's'", 10, 10), "wall(2, 3); hang(0, 5) = 1; lengthOf(0) = 7");
    }

    private static void placesOfTerms() {
        BOOK.holds("begins at a place of the roll that is the offset, modulo the height of the period",
            stock("2, 4, 's'", 24, 24), "wall(8, 3); offset(0, 5) = 0; hang(0, 5) = 1; lengthOf(0) = 9");
        BOOK.holds("begins at a place of the roll that is the offset, modulo the height of the period",
            stock("2, 4, 't'", 24, 24), "wall(6, 3); opening(2, 4); hang(0, 5) = 1; lengthOf(0) = 13");
        BOOK.holds("begins at a place of the roll that is the offset, modulo the height of the period",
            stock("2, 4, 'd'", 24, 24), "wall(6, 3); opening(2, 4); hang(0, 5) = 1; lengthOf(0) = 17");
        BOOK.holds("one of an odd number half the height of the motif more in 'd'",
            stock("2, 4, 'd'", 20, 20), "wall(6, 4); hang(0, 5) = 1; lengthOf(0) = 4");
        BOOK.holds("one of an odd number half the height of the motif more in 'd'",
            stock("2, 6, 'd'", 20, 20), "wall(4, 2); hang(0, 5) = 1; lengthOf(0) = 15");
        BOOK.holds("one of an odd number half the height of the motif more in 'd'",
            stock("2, 12, 'd'", 30, 30), "wall(4, 7); hang(0, 5) = 1; lengthOf(0) = 5");
        BOOK.holds("and the height of the motif more in 't'", stock("2, 3, 't'", 20, 20), "wall(4, 2); hang(0, 5) = 1; lengthOf(0) = 15");
        BOOK.holds("and the height of the motif more in 't'", stock("2, 3, 't'", 20, 20), "wall(6, 2); hang(0, 5) = 1; lengthOf(0) = 12");
        BOOK.holds("and the height of the motif more in 't'", stock("2, 3, 't'", 20, 20), "wall(4, 4); hang(0, 5) = 1; lengthOf(0) = 7");
    }

    private static void cutsOfTerms() {
        BOOK.holds("at the first such place behind what is cut already", stock("2, 4, 's'", 10, 8), "wall(4, 4); hang(0, 5) = 1; lengthOf(0) = 0");
        BOOK.holds("at the first such place behind what is cut already", stock("2, 4, 's'", 13, 13), "wall(4, 5); hang(0, 5) = 1; lengthOf(0) = 0");
        BOOK.holds("if it fits there whole", stock("2, 4, 's'", 24, 12), "wall(4, 5); hang(0, 5) = 2; lengthOf(0) = 7; lengthOf(1) = 7");
        BOOK.holds("if it fits there whole",
            stock("2, 4, 's'", 20, 10),
            "wall(2, 10); hang(0, 5) = 1; lengthOf(0) = 0; empties(); wall(2, 11); hang(0, 5) = throws.NoSuchElementException",
            "offset(0, 5) = throws.NoSuchElementException");
        BOOK.holds("otherwise the next roll is begun, on which it is tried likewise, and so on",
            rolls("2, 2, 's'", 5, 6, 20, 20), "wall(2, 7); hang(0, 5) = 3; lengthOf(0) = 5; lengthOf(1) = 6; lengthOf(2) = 13; lengthOf(3) = 20");
        BOOK.holds("otherwise the next roll is begun, on which it is tried likewise, and so on",
            stock("2, 2, 's'", 30, 10), "wall(2, 3); wall(2, 9); wall(2, 3); hang(0, 5) = 3; lengthOf(0) = 7; lengthOf(1) = 1; lengthOf(2) = 7");
        BOOK.holds("one on which it does not fit is begun all the same",
            rolls("2, 2, 's'", 5, 5, 5, 5, 9),
            "wall(2, 9); hang(0, 5) = 5; lengthOf(0) = 5; lengthOf(3) = 5; lengthOf(4) = 0; hang(0, 5) = throws.NoSuchElementException");
        BOOK.holds("one on which it does not fit is begun all the same",
            rolls("2, 2, 's'", 9, 5, 9), "wall(4, 9); hang(0, 5) = 3; lengthOf(0) = 0; lengthOf(1) = 5; lengthOf(2) = 0");
    }

    private static void offsetOfTerms() {
        BOOK.holds("from 0 up to the height of the period less 1",
            stock("2, 12, 'd'", 20, 20), "wall(4, 6); opening(0, 2); offset(0, 5) = 6; hang(0, 5) = 1; lengthOf(0) = 14");
        BOOK.holds("from 0 up to the height of the period less 1",
            stock("2, 12, 't'", 20, 20), "wall(4, 6); opening(0, 2); offset(0, 5) = 12; hang(0, 5) = 1; lengthOf(0) = 14");
        BOOK.holds("from 0 up to the height of the period less 1",
            stock("2, 2, 'd'", 20, 20), "wall(4, 6); opening(0, 2); offset(0, 5) = 1; wall(2, 6); opening(2, 4); offset(0, 5) = 0");
        BOOK.holds("from 0 up to the height of the period less 1",
            rolls("2, 6, 'd'", 10, 25), "wall(2, 1); wall(2, 9); wall(2, 3); opening(0, 2); offset(0, 5) = 5; hang(0, 5) = 2",
            "lengthOf(0) = 10; lengthOf(1) = 11");
        BOOK.holds("from 0 up to the height of the period less 1",
            rolls("2, 2, 't'", 14, 23), "wall(2, 7); wall(4, 2); wall(2, 12); offset(0, 5) = 3; hang(0, 5) = 2; lengthOf(0) = 4; lengthOf(1) = 6");
        BOOK.holds("that by which the fewest rolls are begun",
            rolls("2, 12, 'd'", 6, 12), "wall(4, 6); opening(0, 2); offset(0, 5) = 6; hang(0, 5) = 1; lengthOf(0) = 0; lengthOf(1) = 12");
        BOOK.holds("that by which the fewest rolls are begun",
            rolls("2, 12, 'd'", 12, 12), "wall(4, 6); offset(0, 5) = 0; hang(0, 5) = 1; lengthOf(0) = 0; lengthOf(1) = 12");
        BOOK.holds("that by which the fewest rolls are begun",
            rolls("2, 12, 'd'", 6), "wall(4, 6); opening(0, 2); offset(0, 5) = 6; hang(0, 5) = 1; lengthOf(0) = 0");
        BOOK.holds("the one that leaves most behind the last cut of all rolls begun",
            stock("4, 4, 'd'", 30, 10),
            "wall(9, 6); wall(4, 5); opening(4, 8); offset(0, 5) = 0; hang(0, 5) = 3; lengthOf(0) = 4; lengthOf(1) = 4; lengthOf(2) = 3");
        BOOK.holds("the one that leaves most behind the last cut of all rolls begun",
            rolls("2, 12, 'd'", 5, 20), "wall(4, 6); opening(0, 2); offset(0, 5) = 6; hang(0, 5) = 2; lengthOf(0) = 5; lengthOf(1) = 14");
        BOOK.holds("the one that leaves most behind the last cut of all rolls begun",
            rolls("2, 4, 's'", 12, 14), "wall(2, 5); wall(2, 4); wall(2, 2); offset(0, 5) = 1; hang(0, 5) = 2; lengthOf(0) = 6; lengthOf(1) = 7");
        BOOK.holds("the one that leaves most behind the last cut of all rolls begun",
            rolls("2, 4, 'd'", 10, 19), "wall(2, 10); wall(2, 5); offset(0, 5) = 1; hang(0, 5) = 2; lengthOf(0) = 10; lengthOf(1) = 3");
        BOOK.holds("then the least", stock("2, 12, 'd'", 28, 14), "wall(4, 7); offset(0, 5) = 0; hang(0, 5) = 2; lengthOf(0) = 7; lengthOf(1) = 1");
        BOOK.holds("then the least", stock("2, 6, 'd'", 16, 8), "wall(4, 5); offset(0, 5) = 0; hang(0, 5) = 2; lengthOf(0) = 3; lengthOf(1) = 0");
        BOOK.holds("then the least", stock("2, 2, 's'", 10, 10), "wall(2, 2); opening(0, 2); offset(0, 5) = 0");
    }

    private static void whatIsGone() {
        BOOK.holds("only what is behind its last cut is left",
            stock("2, 4, 's'", 24, 12),
            "wall(4, 3); hang(0, 5) = 1; lengthOf(0) = 5; lengthOf(1) = 12; hang(0, 5) = 2; lengthOf(0) = 2; lengthOf(1) = 9");
        BOOK.holds("only what is behind its last cut is left",
            stock("2, 12, 'd'", 20, 20),
            "wall(4, 5); opening(2, 4); hang(0, 5) = 1; lengthOf(0) = 15; empties(); wall(4, 5); hang(0, 5) = 1; lengthOf(0) = 4");
        BOOK.holds("all of it without a cut",
            rolls("2, 2, 's'", 5, 20),
            "wall(2, 6); hang(0, 5) = 2; lengthOf(0) = 5; lengthOf(1) = 14; empties(); wall(2, 5); hang(0, 5) = 1; lengthOf(0) = 0",
            "lengthOf(1) = 14");
        BOOK.holds("the number, the shade and the place in its web stay",
            "motif(2, 2, 's'); colourway(0); licence(0, 0, 0); web(0, 30, 5, 100, 125); cut(0, 10, 0); wall(4, 4); shadeBits(1) = 1074790400",
            "hang(0, 5) = 1; hang(0, 5) = 2",
            "rolls() = 3; placeOf(0) = 0; placeOf(1) = 10; placeOf(2) = 20; shadeBits(0) = 1065353216; shadeBits(1) = 1074790400",
            "shadeBits(2) = 1080033280; lengthOf(0) = 2; lengthOf(1) = 2; lengthOf(2) = 10");
        BOOK.holds("and places on it are counted from its beginning again",
            stock("2, 4, 's'", 30, 30),
            "wall(2, 3); hang(0, 5) = 1; lengthOf(0) = 27; hang(0, 5) = 1; lengthOf(0) = 24; hang(0, 5) = 1; lengthOf(0) = 21");
        BOOK.holds("and places on it are counted from its beginning again",
            stock("2, 3, 't'", 20, 20),
            "wall(4, 2); hang(0, 5) = 1; lengthOf(0) = 15; hang(0, 5) = 1; lengthOf(0) = 10; hang(0, 5) = 1; lengthOf(0) = 5; hang(0, 5) = 1",
            "lengthOf(0) = 0; hang(0, 5) = throws.NoSuchElementException");
        BOOK.holds("Without a strip to be hung no roll is begun",
            stock("2, 4, 's'", 20, 10),
            "wall(3, 11); opening(0, 3); offset(0, 5) = 0; hang(0, 5) = 0; lengthOf(0) = 10; hang(0, 6) = 0; offset(0, 6) = 0");
        BOOK.holds("Without a strip to be hung no roll is begun", NARROW, "wall(3, 11); opening(0, 3); hang(0, 0) = 0; offset(0, 99) = 0");
    }

    private static void wall() {
        BOOK.open("Promise 44");
        BOOK.holds("Adds a wall",
            NARROW, "wall(4, 7) = 4; strips(0) = 1; need(0, 0) = 7; wall(4, 9) = 8; strips(0) = 2; need(0, 1) = 9; need(0, 0) = 7");
        BOOK.holds("`width`: 1 to 200",
            "wall(1, 5) = 1; wall(200, 5) = 201; wall(0, 5) = throws.IllegalArgumentException; wall(201, 5) = throws.IllegalArgumentException",
            "wall(1, 5) = 202");
        BOOK.holds("`height`: 1 to 100",
            NARROW,
            "wall(4, 1) = 4; wall(4, 100) = 8; wall(5, 0) = throws.IllegalArgumentException; wall(5, 101) = throws.IllegalArgumentException",
            "need(0, 0) = 1; need(0, 1) = 100");
        BOOK.holds("Returns how many places there are along all walls",
            "wall(200, 100) = 200; wall(200, 100) = 400; wall(200, 100) = 600; wall(200, 100) = 800; wall(200, 100) = 1000; wall(200, 100) = 1200",
            "empties(); wall(3, 3) = 3; opening(0, 3); wall(4, 3) = 7");
        BOOK.refuses(Book.WRONG, "a number is out of range",
            "wall(5, 5)",
            "wall(-1, 5); wall(5, -1); wall(2147483647, 5); wall(-2147483648, 5); wall(5, 2147483647); wall(5, -2147483648); wall(0, 0)");
        BOOK.refuses(Book.FULL, "if there are 6", SIX_WALLS, "wall(1, 1); wall(200, 100)");
        BOOK.refuses(Book.WRONG, "Throws `IllegalArgumentException`", SIX_WALLS, "wall(0, 1); wall(201, 1); wall(1, 0); wall(1, 101)");
    }

    private static void opening() {
        BOOK.open("Promise 45");
        BOOK.holds("Adds an opening", NARROW, "wall(8, 5); opening(2, 8) = 1; need(0, 0) = 5; need(0, 1) = 0; opening(0, 2) = 2; need(0, 0) = 0");
        BOOK.holds("`from`: the place where it begins, from 0",
            NARROW,
            "wall(4, 3); wall(4, 5); opening(0, 4) = 1; need(0, 0) = 0; need(0, 1) = 5; opening(7, 8) = 2",
            "opening(8, 8) = throws.IndexOutOfBoundsException; opening(-1, 1) = throws.IndexOutOfBoundsException");
        BOOK.holds("`to`: the one behind its last one",
            NARROW,
            "wall(4, 3); wall(4, 5); opening(1, 4) = 1; need(0, 0) = 3; opening(4, 8) = 2; need(0, 1) = 0; need(0, 0) = 3; opening(0, 1) = 3",
            "need(0, 0) = 0; wall(1, 1); opening(8, 10) = throws.IndexOutOfBoundsException; opening(8, 9) = 4");
        BOOK.holds("Returns how many there are",
            "wall(20, 5); opening(19, 20) = 1; opening(0, 1) = 2; opening(0, 1) = throws.UnsupportedOperationException; opening(4, 5) = 3",
            "opening(6, 7) = 4; opening(8, 9) = 5; opening(10, 11) = 6; opening(12, 13) = 7; opening(14, 15) = 8");
    }

    private static void openingRefused() {
        String twoWalls = "wall(10, 5); wall(10, 6); opening(8, 12);";
        BOOK.refuses(Book.NONE_SUCH, "the first one below 0 or not below all places",
            twoWalls, "opening(-1, 3); opening(20, 20); opening(21, 20); opening(2147483647, 3); opening(-2147483648, 3)");
        BOOK.refuses(Book.NONE_SUCH, "the second one below 0 or above all places",
            twoWalls, "opening(3, -1); opening(3, 21); opening(19, 21); opening(3, 2147483647); opening(3, -2147483648)");
        BOOK.refuses(Book.NONE_SUCH, "if there are no such places", "", "opening(0, 0); opening(0, 1); opening(-1, 0)");
        BOOK.refuses(Book.NONE_SUCH, "if there are no such places", "wall(5, 5); empties()", "opening(0, 1)");
        BOOK.refuses(Book.WRONG, "the second one is not greater",
            twoWalls, "opening(3, 3); opening(3, 2); opening(3, 0); opening(0, 0); opening(19, 19); opening(19, 0)");
        BOOK.refuses(Book.UNFIT, "it is over another one",
            twoWalls, "opening(7, 9); opening(11, 13); opening(8, 12); opening(9, 11); opening(0, 20); opening(11, 12)");
        BOOK.refuses(Book.FULL, "if there are 8", EIGHT_OPENINGS, "opening(16, 17); opening(19, 20); opening(1, 2)");
        BOOK.refuses(Book.NONE_SUCH, "Throws `IndexOutOfBoundsException`",
            twoWalls, "opening(-1, -1); opening(-1, -2); opening(20, 19); opening(-1, 9); opening(9, 21); opening(21, 21); opening(9, -1)");
        BOOK.refuses(Book.NONE_SUCH, "Throws `IndexOutOfBoundsException`",
            EIGHT_OPENINGS, "opening(-1, 1); opening(20, 21); opening(16, 21); opening(16, -1); opening(0, 21)");
        BOOK.refuses(Book.WRONG, "Throws `IllegalArgumentException`", twoWalls, "opening(9, 9); opening(11, 8); opening(10, 9)");
        BOOK.refuses(Book.WRONG, "Throws `IllegalArgumentException`", EIGHT_OPENINGS, "opening(16, 16); opening(0, 0); opening(17, 16)");
        BOOK.refuses(Book.UNFIT, "Throws `UnsupportedOperationException`", EIGHT_OPENINGS, "opening(0, 1); opening(13, 15); opening(0, 20)");
    }

    private static void empties() {
        BOOK.open("Promise 46");
        BOOK.holds("Takes walls and openings away",
            NARROW,
            "wall(10, 5); wall(10, 6); opening(0, 20); empties() = 2; strips(0) = 0; need(0, 0) = throws.IndexOutOfBoundsException",
            "opening(0, 1) = throws.IndexOutOfBoundsException; wall(20, 7) = 20; need(0, 0) = 7; need(0, 4) = 7; opening(0, 1) = 1");
        BOOK.holds("Takes walls and openings away",
            EIGHT_OPENINGS, SIX_WALLS.substring(11), "empties() = 6;", SIX_WALLS, "wall(1, 1) = throws.IllegalStateException; opening(0, 1) = 1");
        BOOK.holds("Returns how many walls there were",
            "empties() = 0; wall(1, 1); empties() = 1; empties() = 0;", SIX_WALLS, "empties() = 6; empties() = 0");
    }

    private static void strips() {
        BOOK.open("Promise 47");
        BOOK.holds("Returns how many strips go along all walls",
            NARROW,
            "wall(4, 3); strips(0) = 1; wall(1, 3); strips(0) = 2; wall(3, 3); strips(0) = 2; wall(1, 1); strips(0) = 3; opening(0, 9)",
            "strips(0) = 3");
        BOOK.holds("`colourway`: the colourway",
            "motif(2, 2, 's'); motif(12, 2, 's');", "colourway(0);".repeat(7),
            "colourway(1); wall(25, 5); strips(7) = 3; strips(0) = 13; strips(8) = throws.IndexOutOfBoundsException");
        BOOK.holds("Returns how many.", NARROW, "strips(0) = 0; wall(1, 1); strips(0) = 1; empties(); strips(0) = 0");
        BOOK.holds("Returns how many.",
            "motif(2, 2, 's'); motif(12, 2, 'd'); motif(11, 2, 't'); colourway(0); colourway(1); colourway(2);", "wall(200, 1);".repeat(6),
            "strips(0) = 600; strips(1) = 100; strips(2) = 110");
        BOOK.refuses(Book.NONE_SUCH, NO_COLOURWAY, NARROW + "wall(5, 5)", "strips(1); strips(-1); strips(2147483647); strips(-2147483648)");
    }

    private static void need() {
        BOOK.open("Promise 48");
        BOOK.holds("Returns the height that a strip needs", NARROW, "wall(5, 9); wall(2, 20); need(0, 0) = 9; need(0, 1) = 20");
        BOOK.holds("`colourway`: the colourway",
            "motif(2, 2, 's'); motif(12, 2, 's');", "colourway(0);".repeat(7),
            "colourway(1); wall(5, 5); wall(20, 8); need(7, 0) = 8; need(0, 0) = 5; need(7, 2) = 8; need(7, 3) = throws.IndexOutOfBoundsException");
        BOOK.holds("`strip`: the strip, from 0",
            NARROW,
            "wall(4, 1); wall(4, 2); wall(1, 3); need(0, 0) = 1; need(0, 1) = 2; need(0, 2) = 3; need(0, 3) = throws.IndexOutOfBoundsException",
            "need(0, -1) = throws.IndexOutOfBoundsException");
        BOOK.holds("`strip`: the strip, from 0",
            "motif(2, 2, 's'); colourway(0);", "wall(200, 7);".repeat(6), "need(0, 599) = 7; need(0, 600) = throws.IndexOutOfBoundsException");
        BOOK.holds("Returns the height, 0 if it is not hung",
            NARROW, "wall(4, 100); wall(4, 1); opening(0, 3); need(0, 0) = 100; opening(3, 4); need(0, 0) = 0; need(0, 1) = 1");
        BOOK.refuses(Book.NONE_SUCH, "no such colourway",
            NARROW + "wall(5, 5)", "need(1, 0); need(-1, 0); need(2147483647, 0); need(-2147483648, 0)");
        BOOK.refuses(Book.NONE_SUCH, "no such colourway or strip",
            NARROW + "wall(5, 5)", "need(0, 2); need(0, -1); need(0, 2147483647); need(0, -2147483648); need(0, 1073741824)");
        BOOK.refuses(Book.NONE_SUCH, "no such colourway or strip", NARROW, "need(0, 0); need(0, -1)");
    }

    private static void offset() {
        String walls = stock("2, 4, 's'", 20, 10) + "wall(2, 11);";
        BOOK.open("Promise 49");
        BOOK.holds("Returns the offset by which a room would be hung",
            stock("2, 6, 'd'", 12, 12),
            "wall(4, 2); opening(0, 2); offset(0, 5) = 3; lengthOf(0) = 12; offset(0, 5) = 3; hang(0, 5) = 1; lengthOf(0) = 10");
        BOOK.holds("Returns the offset by which a room would be hung",
            stock("2, 3, 't'", 12, 12), "wall(4, 2); opening(0, 2); offset(0, 5) = 3; hang(0, 5) = 1; lengthOf(0) = 10");
        BOOK.holds("`colourway`: the colourway",
            stock("2, 4, 'd'", 10, 10),
            "colourway(0); web(1, 10, 5, 0, 0); cut(1, 5, 0); wall(4, 5); opening(0, 2); offset(1, 5) = 2; offset(0, 5) = 2; empties()",
            "wall(2, 6); offset(1, 5) = throws.NoSuchElementException; offset(0, 5) = 0");
        BOOK.holds("`lot`: 0 to 99",
            "motif(2, 2, 's'); colourway(0); licence(0, 0, 0); web(0, 10, 0, 0, 0); web(0, 10, 99, 0, 0); cut(0, 10, 0); cut(1, 9, 0)",
            "wall(2, 10); offset(0, 0) = 0; offset(0, 99) = throws.NoSuchElementException",
            "offset(0, 50) = throws.NoSuchElementException; empties(); wall(2, 9); offset(0, 99) = 0",
            "offset(0, 100) = throws.IllegalArgumentException; offset(0, -1) = throws.IllegalArgumentException");
        BOOK.holds("Returns the offset.",
            stock("2, 4, 's'", 22, 11), "wall(6, 3); offset(0, 5) = 0; lengthOf(0) = 11; empties(); wall(4, 5); offset(0, 5) = 0");
        BOOK.refuses(Book.NONE_SUCH, NO_COLOURWAY, walls, "offset(1, 5); offset(-1, 5); offset(2147483647, 5); offset(-2147483648, 5)");
        BOOK.refuses(Book.WRONG, "no such lot", walls, "offset(0, 100); offset(0, -1); offset(0, 2147483647); offset(0, -2147483648)");
        BOOK.refuses(Book.UNFIT, "there are no walls", stock("2, 4, 's'", 20, 10), "offset(0, 5); offset(0, 6)");
        BOOK.refuses(Book.UNFIT, "there are no walls", walls + "empties()", "offset(0, 5)");
        BOOK.refuses(Book.MISSING, "there are not enough rolls by any offset", walls, "offset(0, 5); offset(0, 6); offset(0, 0)");
        BOOK.refuses(Book.MISSING, "there are not enough rolls by any offset", NARROW + "wall(1, 1)", "offset(0, 0); offset(0, 99)");
        BOOK.refuses(Book.MISSING, "there are not enough rolls by any offset", stock("2, 3, 't'", 20, 10) + "wall(6, 5)", "offset(0, 5)");
        BOOK.refuses(Book.NONE_SUCH, "Throws `IndexOutOfBoundsException`", NARROW, "offset(1, 100); offset(-1, -1); offset(1, 5)");
        BOOK.refuses(Book.WRONG, "Throws `IllegalArgumentException`", NARROW, "offset(0, 100); offset(0, -1)");
        BOOK.refuses(Book.WRONG, "Throws `IllegalArgumentException`", NARROW + "wall(1, 1)", "offset(0, 100); offset(0, -1)");
        BOOK.refuses(Book.UNFIT, "Throws `UnsupportedOperationException`", NARROW, "offset(0, 0)");
    }

    private static void hang() {
        String walls = stock("2, 4, 's'", 20, 10) + "wall(2, 11);";
        BOOK.open("Promise 50");
        BOOK.holds("Hangs a room", stock("2, 4, 's'", 24, 12), "wall(4, 3); hang(0, 5) = 1; lengthOf(0) = 5; lengthOf(1) = 12; rolls() = 2");
        BOOK.holds("Hangs a room",
            stock("2, 4, 's'", 24, 12), "paint(0, 0, 0, 1, 1, 1); isWhole(0) = false; wall(4, 3); offset(0, 5) = 0; hang(0, 5) = 1");
        BOOK.holds("walls stay",
            stock("2, 4, 's'", 24, 12),
            "wall(4, 3); opening(1, 2); hang(0, 5) = 1; strips(0) = 2; need(0, 1) = 3; opening(1, 2) = throws.UnsupportedOperationException",
            "hang(0, 5) = 2; lengthOf(0) = 2; lengthOf(1) = 9; hang(0, 5) = 2; lengthOf(0) = 2; lengthOf(1) = 2; empties() = 1");
        BOOK.holds("`colourway`: the colourway",
            stock("2, 4, 's'", 10, 10),
            "colourway(0); web(1, 10, 5, 0, 0); cut(1, 10, 0); wall(2, 3); hang(1, 5) = 1; lengthOf(0) = 10; lengthOf(1) = 7");
        BOOK.holds("`lot`: 0 to 99",
            "motif(2, 2, 's'); colourway(0); licence(0, 0, 0); web(0, 10, 0, 0, 0); web(0, 10, 99, 0, 0); cut(0, 10, 0); cut(1, 9, 0); wall(2, 6)",
            "hang(0, 99) = 1; lengthOf(1) = 3; lengthOf(0) = 10; hang(0, 0) = 1; lengthOf(0) = 4",
            "hang(0, 100) = throws.IllegalArgumentException; hang(0, -1) = throws.IllegalArgumentException",
            "hang(0, 98) = throws.NoSuchElementException");
        BOOK.holds("Returns how many rolls are begun",
            rolls("2, 2, 's'", 5, 5, 8, 8),
            "wall(2, 8); hang(0, 5) = 3; lengthOf(2) = 0; hang(0, 5) = 3; lengthOf(3) = 0; empties(); wall(2, 5); hang(0, 5) = 1; hang(0, 5) = 1",
            "hang(0, 5) = throws.NoSuchElementException");
        BOOK.refuses(Book.NONE_SUCH, NO_COLOURWAY, walls, "hang(1, 5); hang(-1, 5); hang(2147483647, 5); hang(-2147483648, 5)");
        BOOK.refuses(Book.WRONG, "no such lot", walls, "hang(0, 100); hang(0, -1); hang(0, 2147483647); hang(0, -2147483648)");
        BOOK.refuses(Book.UNFIT, "there are no walls", stock("2, 4, 's'", 20, 10), "hang(0, 5); hang(0, 6)");
        BOOK.refuses(Book.UNFIT, "there are no walls", walls + "empties()", "hang(0, 5)");
        BOOK.refuses(Book.MISSING, "there are not enough rolls by any offset", walls, "hang(0, 5); hang(0, 6); hang(0, 0)");
        BOOK.refuses(Book.MISSING, "there are not enough rolls by any offset", NARROW + "wall(1, 1)", "hang(0, 0); hang(0, 99)");
        BOOK.refuses(Book.MISSING, "there are not enough rolls by any offset", stock("2, 4, 's'", 20, 10) + "wall(2, 8); wall(4, 10)", "hang(0, 5)");
        BOOK.refuses(Book.NONE_SUCH, "Throws `IndexOutOfBoundsException`", NARROW, "hang(1, 100); hang(-1, -1); hang(1, 5)");
        BOOK.refuses(Book.WRONG, "Throws `IllegalArgumentException`", NARROW, "hang(0, 100); hang(0, -1)");
        BOOK.refuses(Book.WRONG, "Throws `IllegalArgumentException`", NARROW + "wall(1, 1)", "hang(0, 100); hang(0, -1)");
        BOOK.refuses(Book.UNFIT, "Throws `UnsupportedOperationException`", NARROW, "hang(0, 0)");
    }

    /** 1200 places and 600 strips: 20 of the height 5 go on each roll of 100, so 30 rolls are begun. */
    private static void hangTheWidest() {
        StringBuilder script = new StringBuilder("motif(2, 5, 's'); colourway(0); licence(0, 0, 0);" + "web(0, 300, 99, 0, 0);".repeat(10));
        for (int web = 0; web < 10; web++) {
            script.append("cut(").append(web).append(", 100, 0) = 3;");
        }
        script.append("wall(200, 5);".repeat(6));
        BOOK.holds("Returns how many rolls are begun",
            script.toString(), "hang(0, 99) = 30; lengthOf(0) = 0; lengthOf(29) = 0; hang(0, 99) = throws.NoSuchElementException");
        BOOK.holds("Returns how many rolls are begun",
            script.toString(), "opening(1198, 1200); hang(0, 99) = 30; lengthOf(28) = 0; lengthOf(29) = 5");
    }
}
