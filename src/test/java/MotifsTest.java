/** Promises 1 to 9: a new object, motifs, their cloth and their likeness. */
public final class MotifsTest {
    private static final Class<IndexOutOfBoundsException> NONE_SUCH = IndexOutOfBoundsException.class;
    private static final Class<IllegalArgumentException> WRONG = IllegalArgumentException.class;
    private static final Class<IllegalStateException> FULL = IllegalStateException.class;
    private static final Class<UnsupportedOperationException> UNFIT = UnsupportedOperationException.class;
    private static final Check CHECK = new Check("MotifsTest");

    private MotifsTest() {
    }

    public static void main(String[] args) {
        newHouse();
        motif();
        paint();
        cell();
        colourAt();
        period();
        breaks();
        shapes();
        likeness();
        CHECK.end();
    }

    private static void newHouse() {
        Repeatroll house = new Repeatroll();
        CHECK.due("rolls of a new house", house.rolls(), 0);
        CHECK.due("washes of a new house", house.washes(), 0);
        CHECK.due("walls of a new house", house.empties(), 0);
        CHECK.due("streaks of a new house", house.wipe(), 0);
        CHECK.due("checksum of a new house", house.checksum(), 7L);
        CHECK.due("a new house is sound", house.isSound(), true);
        CHECK.due("the day after one of a new house", house.days(1), 1);
        CHECK.refused(house, "the motif of a new house", NONE_SUCH, () -> house.breaks(0));
        CHECK.refused(house, "the ink of a new house", NONE_SUCH, () -> house.over(0, 0, 0));
        CHECK.refused(house, "the colourway of a new house", NONE_SUCH, () -> house.isWhole(0));
    }

    private static void motif() {
        Repeatroll house = new Repeatroll();
        CHECK.refused(house, "motif too narrow", WRONG, () -> house.motif(1, 2, 's'));
        CHECK.refused(house, "motif too wide", WRONG, () -> house.motif(13, 2, 's'));
        CHECK.refused(house, "motif too low", WRONG, () -> house.motif(2, 1, 's'));
        CHECK.refused(house, "motif too high", WRONG, () -> house.motif(2, 13, 's'));
        CHECK.refused(house, "motif without a repeat", WRONG, () -> house.motif(2, 2, 'S'));
        CHECK.refused(house, "half drop of an odd height", WRONG, () -> house.motif(2, 3, 'd'));
        CHECK.due("motif 0", house.motif(2, 2, 's'), 0);
        CHECK.due("motif 1", house.motif(12, 12, 'd'), 1);
        CHECK.due("motif 2", house.motif(12, 11, 't'), 2);
        CHECK.due("motif 3", house.motif(3, 3, 's'), 3);
        CHECK.due("motif 4", house.motif(3, 2, 'd'), 4);
        CHECK.due("motif 5", house.motif(2, 3, 't'), 5);
        CHECK.refused(house, "a seventh motif", FULL, () -> house.motif(2, 2, 's'));
        CHECK.refused(house, "a seventh motif with a wrong number", WRONG, () -> house.motif(2, 0, 's'));
    }

    private static void paint() {
        Repeatroll house = new Repeatroll();
        house.motif(4, 3, 's');
        CHECK.due("paint over both ends", house.paint(0, 3, 2, 2, 2, 5), 4);
        CHECK.due("corner 3, 2", house.cell(0, 3, 2), 5);
        CHECK.due("corner 0, 2", house.cell(0, 0, 2), 5);
        CHECK.due("corner 3, 0", house.cell(0, 3, 0), 5);
        CHECK.due("corner 0, 0", house.cell(0, 0, 0), 5);
        CHECK.due("a cell aside", house.cell(0, 1, 0), 0);
        CHECK.due("paint the same again", house.paint(0, 3, 2, 2, 2, 5), 0);
        CHECK.due("paint all", house.paint(0, 1, 1, 4, 3, 5), 8);
        CHECK.due("paint the ground", house.paint(0, 0, 0, 4, 1, 0), 4);
        CHECK.due("paint the last colour", house.paint(0, 0, 0, 1, 1, 7), 1);
        CHECK.refused(house, "paint no motif", NONE_SUCH, () -> house.paint(1, 0, 0, 0, 0, 9));
        CHECK.refused(house, "paint motif -1", NONE_SUCH, () -> house.paint(-1, 0, 0, 1, 1, 1));
        CHECK.refused(house, "paint x -1", NONE_SUCH, () -> house.paint(0, -1, 0, 1, 1, 1));
        CHECK.refused(house, "paint x 4", NONE_SUCH, () -> house.paint(0, 4, 0, 0, 1, 1));
        CHECK.refused(house, "paint y -1", NONE_SUCH, () -> house.paint(0, 0, -1, 1, 1, 1));
        CHECK.refused(house, "paint y 3", NONE_SUCH, () -> house.paint(0, 0, 3, 1, 1, 8));
        CHECK.refused(house, "paint width 0", WRONG, () -> house.paint(0, 0, 0, 0, 1, 1));
        CHECK.refused(house, "paint width 5", WRONG, () -> house.paint(0, 0, 0, 5, 1, 1));
        CHECK.refused(house, "paint height 0", WRONG, () -> house.paint(0, 0, 0, 1, 0, 1));
        CHECK.refused(house, "paint height 4", WRONG, () -> house.paint(0, 0, 0, 1, 4, 1));
        CHECK.refused(house, "paint colour -1", WRONG, () -> house.paint(0, 0, 0, 1, 1, -1));
        CHECK.refused(house, "paint colour 8", WRONG, () -> house.paint(0, 0, 0, 1, 1, 8));
    }

    private static void cell() {
        Repeatroll house = new Repeatroll();
        house.motif(3, 2, 't');
        house.paint(0, 2, 1, 1, 1, 6);
        CHECK.due("the painted cell", house.cell(0, 2, 1), 6);
        CHECK.due("a cell of the ground", house.cell(0, 2, 0), 0);
        CHECK.refused(house, "cell of no motif", NONE_SUCH, () -> house.cell(1, 0, 0));
        CHECK.refused(house, "cell x 3", NONE_SUCH, () -> house.cell(0, 3, 0));
        CHECK.refused(house, "cell x -1", NONE_SUCH, () -> house.cell(0, -1, 0));
        CHECK.refused(house, "cell y 2", NONE_SUCH, () -> house.cell(0, 0, 2));
        CHECK.refused(house, "cell y -1", NONE_SUCH, () -> house.cell(0, 0, -1));
        CHECK.refused(house, "cell far off", NONE_SUCH, () -> house.cell(0, Integer.MAX_VALUE, Integer.MIN_VALUE));
    }

    private static void colourAt() {
        Repeatroll house = new Repeatroll();
        house.motif(2, 2, 'd');
        house.paint(0, 0, 0, 1, 1, 1);
        CHECK.due("first example 0, 0", house.colourAt(0, 0, 0), 1);
        CHECK.due("first example 2, 0", house.colourAt(0, 2, 0), 0);
        CHECK.due("first example 2, 1", house.colourAt(0, 2, 1), 1);
        CHECK.due("half drop -2, -1", house.colourAt(0, -2, -1), 1);
        CHECK.due("half drop -4, -2", house.colourAt(0, -4, -2), 1);
        house.motif(3, 2, 't');
        house.paint(1, 0, 0, 1, 1, 4);
        CHECK.due("turned 0, 0", house.colourAt(1, 0, 0), 4);
        CHECK.due("turned 5, 1", house.colourAt(1, 5, 1), 4);
        CHECK.due("turned 3, 0", house.colourAt(1, 3, 0), 0);
        CHECK.due("turned 2, 3", house.colourAt(1, 2, 3), 4);
        CHECK.due("turned 3, 2", house.colourAt(1, 3, 2), 4);
        CHECK.due("turned -1, 1", house.colourAt(1, -1, 1), 4);
        CHECK.due("turned -3, -2", house.colourAt(1, -3, -2), 4);
        CHECK.due("turned 2, -1", house.colourAt(1, 2, -1), 4);
        house.motif(7, 5, 's');
        house.paint(2, 3, 1, 1, 1, 2);
        CHECK.due("straight at the far end", house.colourAt(2, 9999 - 9999 % 7 - 7 + 3, -9999), 2);
        CHECK.refused(house, "colourAt of no motif", NONE_SUCH, () -> house.colourAt(3, 10000, 0));
        CHECK.refused(house, "colourAt x 10000", WRONG, () -> house.colourAt(0, 10000, 0));
        CHECK.refused(house, "colourAt x -10000", WRONG, () -> house.colourAt(0, -10000, 0));
        CHECK.refused(house, "colourAt y 10000", WRONG, () -> house.colourAt(0, 0, 10000));
        CHECK.refused(house, "colourAt y -10000", WRONG, () -> house.colourAt(0, 0, -10000));
    }

    private static void period() {
        Repeatroll house = new Repeatroll();
        house.motif(3, 4, 's');
        house.motif(3, 4, 'd');
        house.motif(3, 4, 't');
        CHECK.due("width of s", house.period(0, false), 3);
        CHECK.due("height of s", house.period(0, true), 4);
        CHECK.due("width of d", house.period(1, false), 6);
        CHECK.due("height of d", house.period(1, true), 4);
        CHECK.due("width of t", house.period(2, false), 6);
        CHECK.due("height of t", house.period(2, true), 8);
        CHECK.refused(house, "period of no motif", NONE_SUCH, () -> house.period(3, true));
        CHECK.refused(house, "period of motif -1", NONE_SUCH, () -> house.period(-1, true));
    }

    private static void breaks() {
        Repeatroll house = new Repeatroll();
        house.motif(2, 2, 'd');
        CHECK.due("breaks of the ground", house.breaks(0), 0);
        house.paint(0, 0, 0, 1, 1, 1);
        CHECK.due("breaks of the first example", house.breaks(0), 4);
        house.motif(3, 4, 's');
        house.paint(1, 0, 0, 3, 1, 1);
        CHECK.due("breaks of a stripe along", house.breaks(1), 3);
        house.motif(2, 4, 'd');
        house.paint(2, 0, 0, 2, 2, 1);
        CHECK.due("breaks of a half drop: its own tiles lie higher, too", house.breaks(2), 12);
        house.paint(2, 0, 0, 2, 4, 0);
        house.paint(2, 0, 1, 2, 2, 1);
        CHECK.due("a stripe inside the tiles breaks beside alone", house.breaks(2), 8);
        CHECK.refused(house, "breaks of no motif", NONE_SUCH, () -> house.breaks(3));
    }

    private static void shapes() {
        Repeatroll house = new Repeatroll();
        house.motif(2, 2, 'd');
        CHECK.due("shapes of the ground", house.shapes(0), 0);
        house.paint(0, 0, 0, 1, 1, 1);
        CHECK.due("shapes of the first example", house.shapes(0), 2);
        house.motif(4, 4, 's');
        house.paint(1, 3, 3, 2, 2, 2);
        CHECK.due("a shape that goes around both ends", house.shapes(1), 1);
        house.paint(1, 1, 1, 1, 1, 2);
        CHECK.due("corners do not hang together", house.shapes(1), 2);
        house.paint(1, 1, 1, 1, 1, 3);
        house.paint(1, 1, 2, 1, 1, 4);
        CHECK.due("other colours are other shapes", house.shapes(1), 3);
        house.motif(12, 12, 't');
        house.paint(2, 0, 0, 12, 12, 7);
        CHECK.due("all of one colour", house.shapes(2), 1);
        for (int y = 0; y < 12; y++) {
            for (int x = 0; x < 12; x++) {
                house.paint(2, x, y, 1, 1, (x + y) % 2);
            }
        }
        CHECK.due("a board", house.shapes(2), 288);
        CHECK.refused(house, "shapes of no motif", NONE_SUCH, () -> house.shapes(3));
    }

    private static void likeness() {
        Repeatroll house = new Repeatroll();
        house.motif(3, 4, 's');
        house.motif(3, 4, 't');
        house.motif(4, 3, 's');
        house.motif(3, 5, 's');
        CHECK.due("two grounds", house.likeness(0, 1), 12);
        house.paint(0, 0, 0, 2, 2, 3);
        house.paint(1, 2, 3, 2, 2, 3);
        CHECK.due("the same, moved around", house.likeness(0, 1), 12);
        house.paint(1, 0, 1, 1, 1, 2);
        CHECK.due("but for one cell", house.likeness(0, 1), 11);
        CHECK.due("but for one cell, the other way", house.likeness(1, 0), 11);
        CHECK.due("a motif and itself", house.likeness(2, 2), 12);
        CHECK.refused(house, "likeness of unlike widths", UNFIT, () -> house.likeness(0, 2));
        CHECK.refused(house, "likeness of unlike heights", UNFIT, () -> house.likeness(0, 3));
        CHECK.refused(house, "likeness of no motif", NONE_SUCH, () -> house.likeness(4, 0));
        CHECK.refused(house, "likeness to no motif", NONE_SUCH, () -> house.likeness(0, -1));
    }
}
