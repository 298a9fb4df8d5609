/** "Motifs" and the promises 1 to 9: a new object, motifs, their cloth and their likeness. */
public final class MotifsTest {
    private static final Book BOOK = new Book("MotifsTest");
    private static final String SIX = "motif(2, 2, 's');".repeat(6);
    private static final String FOUR_BY_THREE = "motif(4, 3, 's');";
    /** Two columns of three cells, the colours 1 to 6 row by row. */
    private static final String SIX_COLOURS =
        "paint(0, 0, 0, 1, 1, 1); paint(0, 1, 0, 1, 1, 2); paint(0, 0, 1, 1, 1, 3); paint(0, 1, 1, 1, 1, 4); paint(0, 0, 2, 1, 1, 5);"
            + "paint(0, 1, 2, 1, 1, 6);";
    private static final String NO_MOTIF = "Throws `IndexOutOfBoundsException` if there is no such motif";

    private MotifsTest() {
    }

    public static void main(String[] args) {
        motifs();
        painting();
        tiles();
        tilesDropped();
        tilesTurned();
        periods();
        breaksOfTerms();
        shapesOfTerms();
        likenessOfTerms();
        newObject();
        motif();
        paint();
        paintRefused();
        cell();
        colourAt();
        period();
        breaks();
        shapes();
        likeness();
        BOOK.end();
    }

    private static void motifs() {
        BOOK.open("Motifs");
        BOOK.holds("At most 6 motifs are numbered from 0",
            "motif(2, 2, 's') = 0; motif(3, 3, 't') = 1; motif(2, 2, 'd') = 2; motif(2, 2, 's') = 3; motif(2, 2, 's') = 4; motif(2, 2, 's') = 5",
            "motif(2, 2, 's') = throws.IllegalStateException; breaks(5) = 0; breaks(6) = throws.IndexOutOfBoundsException");
        BOOK.holds("each 2 to 12 wide and 2 to 12 high",
            "motif(2, 2, 's') = 0; motif(12, 12, 's') = 1; motif(2, 12, 't') = 2; motif(12, 2, 'd') = 3",
            "cell(0, 1, 1) = 0; cell(1, 11, 11) = 0; cell(2, 1, 11) = 0; cell(3, 11, 1) = 0",
            "cell(2, 2, 11) = throws.IndexOutOfBoundsException; cell(3, 11, 2) = throws.IndexOutOfBoundsException");
        BOOK.refuses(Book.WRONG, "each 2 to 12 wide and 2 to 12 high",
            "", "motif(1, 2, 's'); motif(13, 2, 's'); motif(2, 1, 's'); motif(2, 13, 's')");
        BOOK.holds("'d' a half drop, for even heights alone",
            "motif(3, 2, 'd') = 0; motif(3, 12, 'd') = 1; motif(3, 3, 'd') = throws.IllegalArgumentException",
            "motif(3, 11, 'd') = throws.IllegalArgumentException",
            "motif(3, 3, 's') = 2; motif(3, 11, 't') = 3");
        BOOK.holds("'s' straight", "motif(3, 3, 's') = 0; motif(2, 11, 's') = 1; motif(2, 12, 's') = 2; period(1, true) = 11; period(2, false) = 2");
        BOOK.holds("or 't' turned", "motif(3, 3, 't') = 0; motif(2, 11, 't') = 1; motif(2, 12, 't') = 2; period(1, true) = 22; period(2, false) = 4");
        BOOK.holds("Its cells have colours, 0 to 7",
            "motif(2, 2, 's'); paint(0, 0, 0, 1, 1, 7) = 1; cell(0, 0, 0) = 7; paint(0, 0, 0, 1, 1, 0) = 1; cell(0, 0, 0) = 0",
            "paint(0, 0, 0, 1, 1, 8) = throws.IllegalArgumentException; paint(0, 0, 0, 1, 1, -1) = throws.IllegalArgumentException");
        StringBuilder cells = new StringBuilder("motif(12, 12, 't');");
        for (int place = 0; place < 144; place++) {
            cells.append("cell(0, ").append(place % 12).append(", ").append(place / 12).append(") = 0;");
        }
        BOOK.holds("0 at first, the ground", cells.toString());
    }

    private static void painting() {
        BOOK.holds("no wider and higher than it",
            FOUR_BY_THREE, "paint(0, 0, 0, 4, 3, 1) = 12; paint(0, 0, 0, 5, 3, 2) = throws.IllegalArgumentException",
            "paint(0, 0, 0, 4, 4, 2) = throws.IllegalArgumentException; paint(0, 3, 2, 4, 3, 2) = 12");
        BOOK.holds("that go on around at its ends",
            FOUR_BY_THREE, "paint(0, 3, 2, 2, 2, 5) = 4; cell(0, 3, 2) = 5; cell(0, 0, 2) = 5; cell(0, 3, 0) = 5; cell(0, 0, 0) = 5",
            "cell(0, 1, 0) = 0; cell(0, 2, 0) = 0; cell(0, 1, 2) = 0; cell(0, 2, 2) = 0; cell(0, 0, 1) = 0; cell(0, 3, 1) = 0");
        BOOK.holds("that go on around at its ends",
            FOUR_BY_THREE, "paint(0, 2, 1, 3, 1, 1) = 3; cell(0, 2, 1) = 1; cell(0, 3, 1) = 1; cell(0, 0, 1) = 1; cell(0, 1, 1) = 0",
            "cell(0, 0, 2) = 0; cell(0, 0, 0) = 0");
        BOOK.holds("that go on around at its ends",
            FOUR_BY_THREE, "paint(0, 1, 2, 1, 2, 1) = 2; cell(0, 1, 2) = 1; cell(0, 1, 0) = 1; cell(0, 1, 1) = 0; cell(0, 2, 0) = 0");
    }

    private static void tiles() {
        String corners = "motif(3, 2, 's'); paint(0, 0, 0, 1, 1, 1); paint(0, 2, 1, 1, 1, 2);";
        BOOK.holds("the tile 0, 0 with its lower left cell at the place 0, 0",
            corners,
            "colourAt(0, 0, 0) = 1; colourAt(0, 2, 1) = 2; colourAt(0, 2, 0) = 0; colourAt(0, 0, 1) = 0; colourAt(0, 3, 0) = 1",
            "colourAt(0, 0, 2) = 1; colourAt(0, 5, 3) = 2");
        BOOK.holds("tiles numbered by columns and rows, below 0, too",
            corners,
            "colourAt(0, -1, -1) = 2; colourAt(0, -3, -2) = 1; colourAt(0, -4, -3) = 2; colourAt(0, -6, 0) = 1; colourAt(0, 0, -4) = 1",
            "colourAt(0, -2, -1) = 0");
        BOOK.holds("lie beside and above each other on all of the cloth",
            corners, "colourAt(0, 9999, 9998) = 1; colourAt(0, -9999, -9998) = 1; colourAt(0, 9998, -9999) = 2; colourAt(0, -9997, 9999) = 2");
        BOOK.holds("In 's', each tile is the motif",
            "motif(2, 3, 's');", SIX_COLOURS,
            "colourAt(0, 10, -12) = 1; colourAt(0, 11, -12) = 2; colourAt(0, 10, -11) = 3; colourAt(0, 11, -11) = 4; colourAt(0, 10, -10) = 5",
            "colourAt(0, 11, -10) = 6");
        BOOK.holds("In 's', each tile is the motif",
            "motif(2, 3, 's');", SIX_COLOURS,
            "colourAt(0, -2, 3) = 1; colourAt(0, -1, 3) = 2; colourAt(0, -2, 4) = 3; colourAt(0, -1, 4) = 4; colourAt(0, -2, 5) = 5",
            "colourAt(0, -1, 5) = 6");
    }

    private static void tilesDropped() {
        String rows = "motif(2, 4, 'd'); paint(0, 0, 0, 2, 1, 1); paint(0, 0, 1, 2, 1, 2); paint(0, 0, 2, 2, 1, 3); paint(0, 0, 3, 2, 1, 4);";
        BOOK.holds("the tiles of odd columns lie half their height higher",
            rows,
            "colourAt(0, 2, 2) = 1; colourAt(0, 2, 3) = 2; colourAt(0, 2, 4) = 3; colourAt(0, 2, 5) = 4; colourAt(0, 3, 2) = 1",
            "colourAt(0, 6, 2) = 1");
        BOOK.holds("the tiles of odd columns lie half their height higher",
            rows,
            "colourAt(0, 0, 0) = 1; colourAt(0, 1, 3) = 4; colourAt(0, 4, 0) = 1; colourAt(0, 5, 1) = 2; colourAt(0, -4, 0) = 1",
            "colourAt(0, -3, -1) = 4");
        BOOK.holds("the place there has the cell half the height below",
            rows,
            "colourAt(0, 2, 0) = 3; colourAt(0, 2, 1) = 4; colourAt(0, 3, -1) = 2; colourAt(0, 3, -2) = 1; colourAt(0, 2, -3) = 4",
            "colourAt(0, 2, -4) = 3");
        BOOK.holds("the place there has the cell half the height below",
            rows, "colourAt(0, -1, 0) = 3; colourAt(0, -2, -1) = 2; colourAt(0, -5, 1) = 4; colourAt(0, -6, 2) = 1");
        BOOK.holds("the place there has the cell half the height below",
            "motif(2, 2, 'd'); paint(0, 0, 0, 2, 1, 5); paint(0, 0, 1, 2, 1, 6);",
            "colourAt(0, 2, 0) = 6; colourAt(0, 2, 1) = 5; colourAt(0, 1, 0) = 5; colourAt(0, 4, 0) = 5; colourAt(0, -1, -1) = 5",
            "colourAt(0, -3, -1) = 6");
        BOOK.holds("the place there has the cell half the height below",
            "motif(2, 12, 'd'); paint(0, 0, 5, 1, 1, 1); paint(0, 0, 11, 1, 1, 2);",
            "colourAt(0, 2, 11) = 1; colourAt(0, 2, 5) = 2; colourAt(0, 2, 17) = 2; colourAt(0, 2, 6) = 0");
    }

    private static void tilesTurned() {
        String words = "a tile whose column and row have an odd sum is turned by a half";
        String turned = "motif(2, 3, 't');";
        BOOK.holds(words,
            turned, SIX_COLOURS,
            "colourAt(0, 2, 0) = 6; colourAt(0, 3, 0) = 5; colourAt(0, 2, 1) = 4; colourAt(0, 3, 1) = 3; colourAt(0, 2, 2) = 2",
            "colourAt(0, 3, 2) = 1");
        BOOK.holds(words,
            turned, SIX_COLOURS,
            "colourAt(0, 0, 3) = 6; colourAt(0, 1, 3) = 5; colourAt(0, 0, 4) = 4; colourAt(0, 1, 4) = 3; colourAt(0, 0, 5) = 2",
            "colourAt(0, 1, 5) = 1");
        BOOK.holds(words,
            turned, SIX_COLOURS, "colourAt(0, 2, 3) = 1; colourAt(0, 3, 5) = 6; colourAt(0, 4, 0) = 1; colourAt(0, 0, 6) = 1; colourAt(0, 0, 0) = 1");
        BOOK.holds(words,
            turned, SIX_COLOURS,
            "colourAt(0, -2, 0) = 6; colourAt(0, 0, -3) = 6; colourAt(0, -1, -1) = 6; colourAt(0, -2, -3) = 1; colourAt(0, 2, -3) = 1");
        BOOK.holds(words, turned, SIX_COLOURS, "colourAt(0, -4, -3) = 6; colourAt(0, -3, -1) = 1; colourAt(0, -2, 6) = 6; colourAt(0, -4, -6) = 1");
    }

    private static void periods() {
        BOOK.holds("The period is what comes back",
            "motif(3, 2, 't'); paint(0, 0, 0, 1, 1, 5); colourAt(0, 6, 0) = 5; colourAt(0, 0, 4) = 5; colourAt(0, -6, -4) = 5",
            "colourAt(0, 3, 0) = 0; colourAt(0, 0, 2) = 0; colourAt(0, 3, 2) = 5; isSound() = true");
        BOOK.holds("as wide and high as the motif in 's'",
            "motif(2, 2, 's'); motif(12, 11, 's'); period(0, false) = 2; period(0, true) = 2; period(1, false) = 12; period(1, true) = 11");
        BOOK.holds("twice as wide in 'd'",
            "motif(2, 2, 'd'); motif(12, 10, 'd'); period(0, false) = 4; period(0, true) = 2; period(1, false) = 24; period(1, true) = 10");
        BOOK.holds("twice as wide and high in 't'",
            "motif(2, 2, 't'); motif(12, 11, 't'); period(0, false) = 4; period(0, true) = 4; period(1, false) = 24; period(1, true) = 22");
        BOOK.holds("its places are those from 0, 0 on", "motif(12, 12, 't');", board(12), "shapes(0) = 288");
        BOOK.holds("what lies beyond an end is at the other one",
            "motif(4, 4, 's'); paint(0, 3, 1, 2, 1, 2); paint(0, 1, 3, 1, 2, 2); shapes(0) = 2");
        BOOK.holds("what lies beyond an end is at the other one",
            "motif(4, 4, 'd'); paint(0, 3, 0, 1, 1, 1); paint(0, 0, 2, 1, 1, 1); colourAt(0, 7, 2) = 1; colourAt(0, 8, 2) = 1; shapes(0) = 2");
        BOOK.holds("what lies beyond an end is at the other one", "motif(2, 2, 't'); paint(0, 0, 0, 2, 1, 1); colourAt(0, 0, 3) = 1; shapes(0) = 2");
    }

    private static void breaksOfTerms() {
        BOOK.holds("one beside or above the other", "motif(3, 3, 's'); paint(0, 0, 0, 1, 1, 1); breaks(0) = 2");
        BOOK.holds("one beside or above the other", "motif(3, 3, 's'); paint(0, 0, 0, 1, 3, 1); breaks(0) = 3");
        BOOK.holds("one beside or above the other", "motif(3, 4, 's'); paint(0, 0, 0, 3, 1, 1); breaks(0) = 3");
        BOOK.holds("of unlike colours", "motif(3, 3, 's'); paint(0, 0, 0, 3, 3, 7); breaks(0) = 0");
        BOOK.holds("of unlike colours", "motif(2, 2, 's'); paint(0, 0, 0, 1, 2, 1); paint(0, 1, 0, 1, 2, 2); breaks(0) = 2");
        BOOK.holds("in two tiles", "motif(3, 3, 's'); paint(0, 1, 1, 1, 1, 1); breaks(0) = 0");
        BOOK.holds("in two tiles", "motif(2, 4, 'd'); paint(0, 0, 1, 2, 1, 1); breaks(0) = 4");
        BOOK.holds("in two tiles", "motif(2, 4, 'd'); paint(0, 0, 1, 2, 2, 1); breaks(0) = 8");
        BOOK.holds("in two tiles", "motif(2, 4, 'd'); paint(0, 0, 0, 2, 2, 1); breaks(0) = 12");
        BOOK.holds("breaks are counted in the period", "motif(12, 12, 's');", board(12), "breaks(0) = 24");
        BOOK.holds("breaks are counted in the period", "motif(12, 12, 'd');", board(12), "breaks(0) = 48");
        BOOK.holds("breaks are counted in the period", "motif(12, 12, 't');", board(12), "breaks(0) = 96");
        BOOK.holds("breaks are counted in the period", "motif(2, 2, 't'); paint(0, 0, 0, 1, 1, 1); breaks(0) = 8");
    }

    private static void shapesOfTerms() {
        BOOK.holds("A shape is a greatest set of places",
            "motif(12, 12, 's'); paint(0, 0, 0, 11, 1, 1);",
            "paint(0, 0, 0, 1, 11, 1); paint(0, 2, 0, 1, 11, 1); paint(0, 4, 0, 1, 11, 1); paint(0, 6, 0, 1, 11, 1); paint(0, 8, 0, 1, 11, 1)",
            "shapes(0) = 1");
        BOOK.holds("A shape is a greatest set of places",
            "motif(8, 8, 's'); paint(0, 0, 0, 7, 7, 2); paint(0, 1, 1, 5, 5, 0); paint(0, 2, 2, 3, 3, 2); shapes(0) = 2",
            "paint(0, 3, 1, 1, 1, 2); shapes(0) = 1");
        BOOK.holds("of one colour",
            "motif(4, 4, 's'); paint(0, 1, 1, 1, 1, 3); paint(0, 1, 2, 1, 1, 4); shapes(0) = 2; paint(0, 1, 2, 1, 1, 3); shapes(0) = 1");
        BOOK.holds("not the ground",
            "motif(4, 4, 's'); shapes(0) = 0; paint(0, 0, 0, 4, 4, 5); shapes(0) = 1; paint(0, 1, 1, 2, 2, 0); shapes(0) = 1");
        BOOK.holds("that hang together beside and above each other",
            "motif(4, 4, 's'); paint(0, 0, 0, 1, 1, 1); paint(0, 1, 1, 1, 1, 1); shapes(0) = 2", "paint(0, 1, 0, 1, 1, 1); shapes(0) = 1");
        BOOK.holds("around", "motif(4, 4, 's'); paint(0, 0, 1, 1, 1, 1); paint(0, 3, 1, 1, 1, 1); shapes(0) = 1");
        BOOK.holds("around", "motif(4, 4, 's'); paint(0, 1, 0, 1, 1, 1); paint(0, 1, 3, 1, 1, 1); shapes(0) = 1");
        BOOK.holds("around",
            "motif(4, 4, 's'); paint(0, 3, 3, 2, 2, 1); shapes(0) = 1; paint(0, 3, 3, 1, 1, 0); paint(0, 0, 0, 1, 1, 0); shapes(0) = 2");
    }

    private static void likenessOfTerms() {
        BOOK.holds("Two motifs of one size",
            "motif(3, 4, 's'); motif(3, 4, 'd'); motif(3, 4, 't'); likeness(0, 1) = 12; likeness(1, 2) = 12; likeness(2, 0) = 12");
        BOOK.holds("by so many cells as have the same colours",
            "motif(3, 4, 's'); motif(3, 4, 's'); paint(0, 0, 0, 3, 4, 1); likeness(0, 1) = 0; paint(1, 2, 2, 1, 1, 1); likeness(0, 1) = 1");
        BOOK.holds("the second one being moved along both ways, around",
            "motif(3, 4, 's'); motif(3, 4, 's'); paint(0, 0, 0, 2, 2, 3); paint(1, 2, 3, 2, 2, 3); likeness(0, 1) = 12");
        BOOK.holds("the second one being moved along both ways, around",
            "motif(3, 4, 's'); motif(3, 4, 's'); paint(0, 0, 0, 1, 1, 3); paint(1, 2, 0, 1, 1, 3); likeness(0, 1) = 12");
        BOOK.holds("the second one being moved along both ways, around",
            "motif(3, 4, 's'); motif(3, 4, 's'); paint(0, 0, 0, 1, 1, 3); paint(1, 0, 3, 1, 1, 3); likeness(0, 1) = 12");
        BOOK.holds("the second one being moved along both ways, around",
            "motif(3, 3, 't'); motif(3, 3, 't'); paint(0, 0, 0, 1, 1, 1); paint(0, 1, 0, 1, 1, 2); paint(1, 0, 0, 1, 1, 2)",
            "paint(1, 1, 0, 1, 1, 1); likeness(0, 1) = 7");
        BOOK.holds("so that this is most",
            "motif(4, 4, 's'); motif(4, 4, 's'); paint(0, 0, 0, 2, 2, 3); paint(1, 1, 1, 2, 2, 3); paint(1, 1, 1, 1, 1, 2); likeness(0, 1) = 15",
            "likeness(1, 0) = 15");
    }

    private static void newObject() {
        BOOK.open("Promise 1");
        BOOK.refuses(Book.NONE_SUCH, "without motifs",
            "",
            "paint(0, 0, 0, 1, 1, 1); cell(0, 0, 0); colourAt(0, 0, 0); period(0, false); breaks(0); shapes(0); likeness(0, 0); colourway(0);"
                + "licence(0, 0, 0)");
        BOOK.holds("without motifs", "motif(2, 2, 's') = 0; checksum() = 6464647");
        BOOK.holds("without motifs", "checksum() = 7; isSound() = true; rolls() = 0; washes() = 0");
        BOOK.refuses(Book.NONE_SUCH, "without motifs, inks",
            "", "isWhole(0); cylinders(0); falseTwins(0); bare(0); run(0); strips(0); placeOf(0); mark(0, 0, 1); cut(0, 5, 0)");
        BOOK.refuses(Book.NONE_SUCH, "inks", "motif(2, 2, 's'); colourway(0)", "over(0, 0, 0); dye(0, 1, 0)");
        BOOK.holds("inks", "ink(1, 2, 3) = 0");
        BOOK.refuses(Book.NONE_SUCH, "rollers", "motif(2, 2, 's')", "fits(0, 0)");
        BOOK.holds("rollers", "wipe() = 0; culprit() = throws.UnsupportedOperationException; roller(2) = 0; streak(0) = 1");
        BOOK.holds("and walls", "opening(0, 1) = throws.IndexOutOfBoundsException; empties() = 0; wall(1, 1) = 1");
        BOOK.holds("on the day 0", "days(1) = 1");
        BOOK.holds("on the day 0", "motif(2, 2, 's'); colourway(0); licence(0, 0, 0); web(0, 10, 0, 0, 0) = 0");
    }

    private static void motif() {
        BOOK.open("Promise 2");
        BOOK.holds("Makes a motif", "motif(2, 3, 's') = 0; period(0, false) = 2; period(0, true) = 3; cell(0, 1, 2) = 0; isSound() = true");
        BOOK.holds("`width`: 2 to 12",
            "motif(2, 5, 's') = 0; motif(12, 5, 's') = 1; motif(1, 5, 's') = throws.IllegalArgumentException",
            "motif(13, 5, 's') = throws.IllegalArgumentException");
        BOOK.holds("`height`: 2 to 12",
            "motif(5, 2, 's') = 0; motif(5, 12, 's') = 1; motif(5, 1, 's') = throws.IllegalArgumentException",
            "motif(5, 13, 's') = throws.IllegalArgumentException");
        BOOK.holds("`repeat`: s, d or t",
            "motif(2, 2, 's') = 0; motif(2, 2, 'd') = 1; motif(2, 2, 't') = 2; period(0, false) = 2; period(1, false) = 4; period(1, true) = 2",
            "period(2, true) = 4");
        BOOK.holds("Returns its number",
            "motif(2, 2, 's') = 0; motif(2, 3, 't') = 1; motif(1, 1, 's') = throws.IllegalArgumentException; motif(2, 2, 'd') = 2",
            "motif(12, 12, 's') = 3; motif(2, 2, 's') = 4; motif(2, 2, 's') = 5");
        BOOK.refuses(Book.WRONG, "a number is out of range",
            "",
            "motif(0, 2, 's'); motif(-2, 2, 's'); motif(2, 0, 's'); motif(2, -2, 'd'); motif(2147483647, 2, 's'); motif(-2147483648, 2, 't');"
                + "motif(2, 2147483647, 's'); motif(2, -2147483648, 'd')");
        BOOK.refuses(Book.WRONG, "there is no such repeat",
            "",
            "motif(2, 2, 'S'); motif(2, 2, 'D'); motif(2, 2, 'T'); motif(2, 2, 'r'); motif(2, 2, 'u'); motif(2, 2, 'c'); motif(2, 2, 'e');"
                + "motif(2, 2, ' ')");
        BOOK.refuses(Book.WRONG, "it is d with an odd height", "", "motif(2, 3, 'd'); motif(2, 11, 'd'); motif(3, 5, 'd')");
        BOOK.refuses(Book.FULL, "if there are 6", SIX, "motif(2, 2, 's'); motif(12, 12, 'd'); motif(3, 3, 't')");
        BOOK.refuses(Book.WRONG, "Throws `IllegalArgumentException`",
            SIX, "motif(1, 2, 's'); motif(13, 2, 's'); motif(2, 1, 's'); motif(2, 13, 's'); motif(2, 2, 'x'); motif(2, 3, 'd')");
    }

    private static void paint() {
        BOOK.open("Promise 3");
        BOOK.holds("Paints a rectangle",
            FOUR_BY_THREE,
            "paint(0, 1, 0, 2, 2, 3) = 4; cell(0, 0, 0) = 0; cell(0, 1, 0) = 3; cell(0, 2, 0) = 3; cell(0, 3, 0) = 0; cell(0, 1, 1) = 3",
            "cell(0, 2, 1) = 3; cell(0, 1, 2) = 0");
        BOOK.holds("`motif`: the motif", SIX, "paint(5, 1, 1, 1, 1, 4) = 1; cell(5, 1, 1) = 4; cell(0, 1, 1) = 0; cell(4, 1, 1) = 0");
        BOOK.holds("`x`: the left cell, from 0",
            FOUR_BY_THREE,
            "paint(0, 0, 1, 1, 1, 2) = 1; cell(0, 0, 1) = 2; cell(0, 3, 1) = 0; cell(0, 1, 1) = 0; paint(0, 3, 1, 1, 1, 4) = 1; cell(0, 3, 1) = 4",
            "cell(0, 0, 1) = 2");
        BOOK.holds("`y`: the lower cell, from 0",
            FOUR_BY_THREE,
            "paint(0, 1, 0, 1, 1, 2) = 1; cell(0, 1, 0) = 2; cell(0, 1, 2) = 0; cell(0, 1, 1) = 0; paint(0, 1, 2, 1, 1, 4) = 1; cell(0, 1, 2) = 4",
            "cell(0, 1, 0) = 2");
        BOOK.holds("`width`: from 1 to the width of the motif",
            "motif(3, 4, 's'); paint(0, 1, 1, 1, 1, 1) = 1; paint(0, 1, 2, 3, 1, 1) = 3; paint(0, 0, 0, 4, 1, 1) = throws.IllegalArgumentException");
        BOOK.holds("`height`: from 1 to its height",
            FOUR_BY_THREE, "paint(0, 1, 1, 1, 1, 1) = 1; paint(0, 2, 1, 1, 3, 1) = 3; paint(0, 0, 0, 1, 4, 1) = throws.IllegalArgumentException");
        BOOK.holds("`colour`: 0 to 7",
            FOUR_BY_THREE,
            "paint(0, 0, 0, 1, 1, 7) = 1; paint(0, 1, 0, 1, 1, 1) = 1; paint(0, 0, 0, 2, 1, 0) = 2; cell(0, 0, 0) = 0; cell(0, 1, 0) = 0");
        BOOK.holds("Returns how many cells changed",
            FOUR_BY_THREE,
            "paint(0, 0, 0, 4, 3, 0) = 0; paint(0, 3, 2, 2, 2, 5) = 4; paint(0, 3, 2, 2, 2, 5) = 0; paint(0, 1, 1, 4, 3, 5) = 8",
            "paint(0, 0, 0, 4, 3, 6) = 12");
        BOOK.holds("Returns how many cells changed",
            "motif(12, 12, 's'); paint(0, 11, 11, 12, 12, 1) = 144; paint(0, 5, 6, 12, 12, 1) = 0; paint(0, 0, 0, 1, 1, 2) = 1",
            "paint(0, 0, 0, 12, 12, 1) = 1");
    }

    private static void paintRefused() {
        BOOK.refuses(Book.NONE_SUCH, "there is no such motif",
            FOUR_BY_THREE, "paint(1, 0, 0, 1, 1, 1); paint(-1, 0, 0, 1, 1, 1); paint(2147483647, 0, 0, 1, 1, 1); paint(-2147483648, 0, 0, 1, 1, 1)");
        BOOK.refuses(Book.NONE_SUCH, "there is no such motif", SIX, "paint(6, 0, 0, 1, 1, 1)");
        BOOK.refuses(Book.NONE_SUCH, "no such motif or cell",
            FOUR_BY_THREE + "motif(12, 12, 's')",
            "paint(0, -1, 0, 1, 1, 1); paint(0, 4, 0, 1, 1, 1); paint(0, 0, -1, 1, 1, 1); paint(0, 0, 3, 1, 1, 1); paint(0, 3, 3, 1, 1, 1);"
                + "paint(1, 12, 11, 1, 1, 1); paint(1, 11, 12, 1, 1, 1)");
        BOOK.refuses(Book.NONE_SUCH, "no such motif or cell",
            FOUR_BY_THREE,
            "paint(0, 2147483647, 0, 1, 1, 1); paint(0, -2147483648, 0, 1, 1, 1); paint(0, 0, 2147483647, 1, 1, 1);"
                + "paint(0, 0, -2147483648, 1, 1, 1)");
        BOOK.refuses(Book.WRONG, "a number is out of range",
            FOUR_BY_THREE,
            "paint(0, 0, 0, 0, 1, 1); paint(0, 0, 0, 5, 1, 1); paint(0, 0, 0, -1, 1, 1); paint(0, 0, 0, 1, 0, 1); paint(0, 0, 0, 1, 4, 1);"
                + "paint(0, 0, 0, 1, -1, 1)");
        BOOK.refuses(Book.WRONG, "a number is out of range",
            FOUR_BY_THREE,
            "paint(0, 0, 0, 1, 1, -1); paint(0, 0, 0, 1, 1, 8); paint(0, 0, 0, 2147483647, 1, 1); paint(0, 3, 2, 1, 2147483647, 1);"
                + "paint(0, 0, 0, 1, 1, -2147483648)");
        BOOK.refuses(Book.NONE_SUCH, "Throws `IndexOutOfBoundsException`",
            FOUR_BY_THREE, "paint(1, 0, 0, 0, 1, 1); paint(-1, 0, 0, 1, 0, 1); paint(1, 0, 0, 1, 1, 8)");
        BOOK.refuses(Book.NONE_SUCH, "Throws `IndexOutOfBoundsException`",
            FOUR_BY_THREE, "paint(0, 4, 0, 5, 1, 1); paint(0, -1, 0, 1, 4, 1); paint(0, 0, 3, 1, 1, -1); paint(0, 0, -1, 0, 0, 8)");
    }

    private static void cell() {
        BOOK.open("Promise 4");
        BOOK.holds("Returns the colour of a cell",
            "motif(3, 2, 't'); motif(3, 2, 'd'); paint(0, 2, 1, 1, 1, 6); cell(0, 2, 1) = 6; cell(0, 0, 0) = 0; cell(0, 2, 0) = 0",
            "cell(0, 0, 1) = 0; cell(1, 2, 1) = 0");
        BOOK.holds("`motif`: the motif", SIX, "paint(5, 0, 0, 1, 1, 2); cell(5, 0, 0) = 2; cell(0, 0, 0) = 0");
        BOOK.holds("`x`: x",
            "motif(5, 3, 's'); paint(0, 0, 0, 1, 1, 1); paint(0, 4, 0, 1, 1, 2); cell(0, 0, 0) = 1; cell(0, 4, 0) = 2",
            "cell(0, 5, 0) = throws.IndexOutOfBoundsException; cell(0, -1, 0) = throws.IndexOutOfBoundsException");
        BOOK.holds("`y`: y",
            "motif(3, 5, 's'); paint(0, 0, 0, 1, 1, 1); paint(0, 0, 4, 1, 1, 2); cell(0, 0, 0) = 1; cell(0, 0, 4) = 2",
            "cell(0, 0, 5) = throws.IndexOutOfBoundsException; cell(0, 0, -1) = throws.IndexOutOfBoundsException");
        BOOK.holds("Returns the colour.",
            "motif(12, 12, 's'); paint(0, 11, 11, 1, 1, 7); cell(0, 11, 11) = 7; paint(0, 11, 11, 1, 1, 0); cell(0, 11, 11) = 0");
        BOOK.refuses(Book.NONE_SUCH, "no such motif",
            "motif(3, 2, 's')", "cell(1, 0, 0); cell(-1, 0, 0); cell(2147483647, 0, 0); cell(-2147483648, 0, 0)");
        BOOK.refuses(Book.NONE_SUCH, "no such motif or cell",
            "motif(3, 2, 's'); motif(12, 12, 's')",
            "cell(0, 3, 0); cell(0, 0, 2); cell(0, 2, 2); cell(1, 12, 0); cell(1, 0, 12); cell(0, 2147483647, -2147483648);"
                + "cell(0, -2147483648, 1); cell(0, 0, 2147483647)");
    }

    private static void colourAt() {
        BOOK.open("Promise 5");
        BOOK.holds("Returns the colour of a place of the cloth",
            "motif(3, 2, 't'); paint(0, 0, 0, 1, 1, 4); colourAt(0, 0, 0) = 4; colourAt(0, 5, 1) = 4; colourAt(0, 3, 0) = 0",
            "colourAt(0, 2, 3) = 4; colourAt(0, 3, 2) = 4");
        BOOK.holds("`motif`: the motif", SIX, "paint(5, 0, 0, 2, 2, 2); colourAt(5, 17, -4) = 2; colourAt(0, 17, -4) = 0");
        String spots = "motif(7, 5, 's'); paint(0, 3, 4, 1, 1, 1); paint(0, 4, 1, 1, 1, 2); paint(0, 3, 1, 1, 1, 3); paint(0, 4, 4, 1, 1, 4);";
        BOOK.holds("`x`: x, -9999 to 9999",
            spots,
            "colourAt(0, 9999, 9999) = 1; colourAt(0, -9999, -9999) = 2; colourAt(0, 10000, 0) = throws.IllegalArgumentException",
            "colourAt(0, -10000, 0) = throws.IllegalArgumentException");
        BOOK.holds("`y`: y, -9999 to 9999",
            spots,
            "colourAt(0, 9999, -9999) = 3; colourAt(0, -9999, 9999) = 4; colourAt(0, 0, 10000) = throws.IllegalArgumentException",
            "colourAt(0, 0, -10000) = throws.IllegalArgumentException");
        BOOK.holds("Returns the colour.",
            "motif(2, 2, 't'); paint(0, 1, 1, 1, 1, 5); paint(0, 0, 0, 1, 1, 6); colourAt(0, 9999, 9999) = 5; colourAt(0, -9999, 9999) = 6",
            "colourAt(0, -9999, -9999) = 5");
        BOOK.holds("Returns the colour.",
            "motif(3, 4, 'd'); paint(0, 0, 1, 1, 1, 1); paint(0, 0, 3, 1, 1, 2); colourAt(0, 9999, 9999) = 1; colourAt(0, -9999, -9999) = 2");
        BOOK.refuses(Book.NONE_SUCH, NO_MOTIF, "motif(2, 2, 's')", "colourAt(1, 0, 0); colourAt(-1, 0, 0); colourAt(2147483647, 0, 0)");
        BOOK.refuses(Book.NONE_SUCH, NO_MOTIF, "motif(2, 2, 's')", "colourAt(1, 10000, 0); colourAt(-1, 0, -10000)");
        BOOK.refuses(Book.WRONG, "a number is out of range",
            "motif(2, 2, 's')", "colourAt(0, 2147483647, 0); colourAt(0, -2147483648, 0); colourAt(0, 0, 2147483647); colourAt(0, 0, -2147483648)");
    }

    private static void period() {
        BOOK.open("Promise 6");
        BOOK.holds("Returns how wide or high the period is",
            "motif(3, 4, 's'); motif(3, 4, 'd'); motif(3, 4, 't'); period(0, false) = 3; period(0, true) = 4; period(1, false) = 6",
            "period(1, true) = 4; period(2, false) = 6; period(2, true) = 8");
        BOOK.holds("`motif`: the motif", SIX.replaceFirst("2, 2", "5, 7"), "period(0, true) = 7; period(5, true) = 2");
        BOOK.holds("`isHeight`: whether the height is meant", "motif(2, 12, 's'); period(0, true) = 12; period(0, false) = 2");
        BOOK.holds("Returns the number",
            "motif(12, 12, 't'); motif(2, 2, 's'); period(0, false) = 24; period(0, true) = 24; period(1, false) = 2; period(1, true) = 2");
        BOOK.refuses(Book.NONE_SUCH, NO_MOTIF,
            "motif(2, 2, 's')", "period(1, true); period(1, false); period(-1, true); period(2147483647, false); period(-2147483648, true)");
    }

    private static void breaks() {
        BOOK.open("Promise 7");
        BOOK.holds("Returns how many breaks there are", "motif(2, 2, 'd'); paint(0, 0, 0, 1, 1, 1); breaks(0) = 4");
        BOOK.holds("`motif`: the motif", SIX, "paint(5, 0, 0, 1, 1, 1); breaks(5) = 2; breaks(0) = 0; breaks(4) = 0");
        BOOK.holds("Returns how many.",
            "motif(5, 4, 's'); breaks(0) = 0; paint(0, 4, 0, 1, 4, 1); breaks(0) = 4; paint(0, 0, 3, 5, 1, 2); breaks(0) = 8");
        BOOK.refuses(Book.NONE_SUCH, NO_MOTIF, "motif(2, 2, 's')", "breaks(1); breaks(-1); breaks(2147483647); breaks(-2147483648)");
    }

    private static void shapes() {
        BOOK.open("Promise 8");
        BOOK.holds("Returns how many shapes the period has", "motif(2, 2, 'd'); paint(0, 0, 0, 1, 1, 1); shapes(0) = 2");
        BOOK.holds("Returns how many shapes the period has",
            "motif(12, 12, 's'); motif(12, 12, 'd');", board(12), board(12).replace("paint(0", "paint(1"), "shapes(0) = 72; shapes(1) = 144");
        BOOK.holds("`motif`: the motif", SIX, "paint(5, 0, 0, 1, 1, 1); shapes(5) = 1; shapes(0) = 0");
        BOOK.holds("Returns how many.", "motif(12, 12, 't'); shapes(0) = 0; paint(0, 0, 0, 12, 12, 7); shapes(0) = 1");
        BOOK.holds("Returns how many.",
            "motif(4, 4, 's'); paint(0, 3, 3, 2, 2, 2); shapes(0) = 1; paint(0, 1, 1, 1, 1, 2); shapes(0) = 2; paint(0, 1, 1, 1, 1, 3)",
            "paint(0, 1, 2, 1, 1, 4); shapes(0) = 3; shapes(0) = 3");
        BOOK.refuses(Book.NONE_SUCH, NO_MOTIF, "motif(2, 2, 's')", "shapes(1); shapes(-1); shapes(2147483647); shapes(-2147483648)");
    }

    private static void likeness() {
        BOOK.open("Promise 9");
        BOOK.holds("Returns by how many cells two motifs are like",
            "motif(12, 12, 's'); motif(12, 12, 'd'); likeness(0, 1) = 144; paint(0, 3, 3, 12, 12, 1); likeness(0, 1) = 0");
        BOOK.holds("`motif`: the first one",
            "motif(3, 4, 's'); motif(3, 4, 's'); paint(0, 1, 1, 1, 1, 1); likeness(0, 0) = 12; likeness(0, 1) = 11; likeness(1, 0) = 11");
        BOOK.holds("`other`: the one that is moved",
            "motif(3, 2, 's'); motif(3, 2, 's'); paint(0, 0, 0, 1, 1, 1); paint(1, 1, 1, 1, 1, 1); paint(1, 2, 1, 1, 1, 2); likeness(0, 1) = 5");
        BOOK.holds("Returns how many.",
            "motif(2, 2, 's'); motif(2, 2, 's'); paint(0, 0, 0, 1, 1, 1); paint(0, 1, 0, 1, 1, 2); paint(0, 0, 1, 1, 1, 3); paint(0, 1, 1, 1, 1, 4)",
            "paint(1, 0, 0, 1, 1, 4); paint(1, 1, 0, 1, 1, 3); paint(1, 0, 1, 1, 1, 2); paint(1, 1, 1, 1, 1, 1); likeness(0, 1) = 4",
            "paint(1, 0, 0, 1, 1, 1); likeness(0, 1) = 3");
        BOOK.refuses(Book.NONE_SUCH, "no such motif, for either",
            "motif(2, 2, 's'); motif(3, 2, 's')",
            "likeness(2, 0); likeness(0, 2); likeness(-1, 0); likeness(0, -1); likeness(2, 2); likeness(2147483647, 0); likeness(0, -2147483648)");
        BOOK.refuses(Book.UNFIT, "they are of unlike sizes",
            "motif(3, 4, 's'); motif(4, 3, 's'); motif(3, 5, 's'); motif(4, 4, 's'); motif(2, 6, 's')",
            "likeness(0, 1); likeness(1, 0); likeness(0, 2); likeness(2, 0); likeness(0, 3); likeness(3, 0); likeness(0, 4)");
    }

    /** Every second cell has the colour 1, so that none of them hang together. */
    private static String board(int side) {
        StringBuilder paints = new StringBuilder();
        for (int place = 0; place < side * side; place++) {
            if ((place % side + place / side) % 2 == 1) {
                paints.append("paint(0, ").append(place % side).append(", ").append(place / side).append(", 1, 1, 1);");
            }
        }
        return paints.toString();
    }
}
