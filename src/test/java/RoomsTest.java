import java.util.NoSuchElementException;

/** Promises 44 to 50: walls, openings, strips and how a room is hung. */
public final class RoomsTest {
    private static final Class<IndexOutOfBoundsException> NONE_SUCH = IndexOutOfBoundsException.class;
    private static final Class<IllegalArgumentException> WRONG = IllegalArgumentException.class;
    private static final Class<IllegalStateException> FULL = IllegalStateException.class;
    private static final Class<UnsupportedOperationException> UNFIT = UnsupportedOperationException.class;
    private static final Class<NoSuchElementException> MISSING = NoSuchElementException.class;
    private static final Check CHECK = new Check("RoomsTest");

    private RoomsTest() {
    }

    public static void main(String[] args) {
        wall();
        opening();
        openingsFull();
        empties();
        strips();
        need();
        offset();
        offsetRefused();
        hangStraight();
        hangHalfDrop();
        hangTurned();
        hangMostLeft();
        hangOthers();
        hangTheWidest();
        CHECK.end();
    }

    /** A licensed house with one motif, its colourway 0 and one web of a lot, cut to rolls. */
    private static Repeatroll stocked(int width, int height, char repeat, int length, int roll) {
        Repeatroll house = new Repeatroll();
        house.motif(width, height, repeat);
        house.colourway(0);
        house.licence(0, 0, 9999);
        house.web(0, length, 5, 0, 0);
        house.cut(0, roll, 0);
        return house;
    }

    private static void wall() {
        Repeatroll house = new Repeatroll();
        CHECK.refused(house, "wall of width 0", WRONG, () -> house.wall(0, 1));
        CHECK.refused(house, "wall of width 201", WRONG, () -> house.wall(201, 1));
        CHECK.refused(house, "wall of height 0", WRONG, () -> house.wall(1, 0));
        CHECK.refused(house, "wall of height 101", WRONG, () -> house.wall(1, 101));
        CHECK.due("a small wall", house.wall(1, 1), 1);
        for (int number = 1; number < 6; number++) {
            CHECK.due("wall " + number, house.wall(200, 100), 1 + 200 * number);
        }
        CHECK.refused(house, "a seventh wall", FULL, () -> house.wall(1, 1));
        CHECK.refused(house, "a seventh wall of height 0", WRONG, () -> house.wall(1, 0));
    }

    private static void opening() {
        Repeatroll house = new Repeatroll();
        house.motif(2, 2, 's');
        house.colourway(0);
        CHECK.refused(house, "opening without walls", NONE_SUCH, () -> house.opening(0, 0));
        house.wall(10, 5);
        house.wall(10, 6);
        CHECK.refused(house, "opening from -1", NONE_SUCH, () -> house.opening(-1, 3));
        CHECK.refused(house, "opening from 20", NONE_SUCH, () -> house.opening(20, 20));
        CHECK.refused(house, "opening to -1", NONE_SUCH, () -> house.opening(3, -1));
        CHECK.refused(house, "opening to 21", NONE_SUCH, () -> house.opening(3, 21));
        CHECK.refused(house, "opening of nothing", WRONG, () -> house.opening(3, 3));
        CHECK.refused(house, "opening backwards", WRONG, () -> house.opening(3, 0));
        CHECK.due("opening over both walls", house.opening(8, 12), 1);
        CHECK.refused(house, "opening over its end", UNFIT, () -> house.opening(11, 13));
        CHECK.refused(house, "opening over its beginning", UNFIT, () -> house.opening(7, 9));
        CHECK.refused(house, "opening over all of it", UNFIT, () -> house.opening(7, 13));
        CHECK.refused(house, "opening within it", UNFIT, () -> house.opening(9, 10));
        CHECK.refused(house, "opening within it, backwards", WRONG, () -> house.opening(10, 9));
        CHECK.due("opening right ahead of it", house.opening(6, 8), 2);
        CHECK.due("opening right behind it, to the end", house.opening(12, 20), 3);
        house.wall(1, 1);
        CHECK.due("opening on a further wall", house.opening(20, 21), 4);
    }

    private static void openingsFull() {
        Repeatroll house = new Repeatroll();
        house.wall(20, 5);
        for (int number = 0; number < 8; number++) {
            CHECK.due("opening " + number, house.opening(2 * number, 2 * number + 1), number + 1);
        }
        CHECK.refused(house, "a ninth opening", FULL, () -> house.opening(19, 20));
        CHECK.refused(house, "a ninth opening over another", UNFIT, () -> house.opening(0, 20));
    }

    private static void empties() {
        Repeatroll house = new Repeatroll();
        house.motif(4, 2, 's');
        house.colourway(0);
        CHECK.due("empties of none", house.empties(), 0);
        house.wall(10, 5);
        house.wall(10, 5);
        house.opening(0, 20);
        CHECK.due("empties of two walls", house.empties(), 2);
        CHECK.due("no strips are left", house.strips(0), 0);
        house.wall(8, 7);
        CHECK.due("no opening is left", house.need(0, 0), 7);
        CHECK.due("the first opening again", house.opening(0, 1), 1);
    }

    private static void strips() {
        Repeatroll house = new Repeatroll();
        house.motif(4, 2, 's');
        house.motif(5, 2, 'd');
        house.colourway(0);
        house.colourway(1);
        CHECK.due("strips without walls", house.strips(0), 0);
        house.wall(8, 3);
        CHECK.due("strips that end with the wall", house.strips(0), 2);
        CHECK.due("strips of the width of the motif, not of the period", house.strips(1), 2);
        house.wall(3, 3);
        CHECK.due("a strip beyond the end", house.strips(0), 3);
        house.opening(0, 11);
        CHECK.due("strips that are not hung count", house.strips(0), 3);
        CHECK.refused(house, "strips of no colourway", NONE_SUCH, () -> house.strips(2));
    }

    private static void need() {
        Repeatroll house = new Repeatroll();
        house.motif(4, 2, 's');
        house.colourway(0);
        CHECK.refused(house, "need without walls", NONE_SUCH, () -> house.need(0, 0));
        house.wall(5, 9);
        house.wall(2, 20);
        house.wall(6, 3);
        CHECK.due("one wall", house.need(0, 0), 9);
        CHECK.due("the highest of three", house.need(0, 1), 20);
        CHECK.due("the last wall", house.need(0, 2), 3);
        CHECK.due("beyond the end", house.need(0, 3), 3);
        house.opening(5, 7);
        CHECK.due("the highest, openings aside", house.need(0, 1), 9);
        house.opening(4, 5);
        CHECK.due("the lowest one is left", house.need(0, 1), 3);
        house.opening(7, 8);
        CHECK.due("none is left", house.need(0, 1), 0);
        CHECK.due("those beside it stay", house.need(0, 2), 3);
        CHECK.refused(house, "need of strip 4", NONE_SUCH, () -> house.need(0, 4));
        CHECK.refused(house, "need of strip -1", NONE_SUCH, () -> house.need(0, -1));
        CHECK.refused(house, "need of no colourway", NONE_SUCH, () -> house.need(1, 0));
    }

    private static void offset() {
        Repeatroll house = stocked(2, 4, 's', 22, 11);
        house.wall(6, 3);
        CHECK.due("the fewest rolls, then most left, then the least", house.offset(0, 5), 0);
        CHECK.due("nothing is cut by asking", house.lengthOf(0), 11);
        house.empties();
        house.wall(4, 5);
        CHECK.due("two strips from two rolls: most is left by the offset 0", house.offset(0, 5), 0);
        Repeatroll dropped = stocked(2, 6, 'd', 12, 12);
        dropped.wall(4, 2);
        dropped.opening(0, 2);
        CHECK.due("an odd strip alone begins at 0 by the offset 3", dropped.offset(0, 5), 3);
        Repeatroll turned = stocked(2, 3, 't', 12, 12);
        turned.wall(4, 2);
        turned.opening(0, 2);
        CHECK.due("an odd strip alone of a turned motif", turned.offset(0, 5), 3);
    }

    private static void offsetRefused() {
        Repeatroll house = stocked(2, 4, 's', 20, 10);
        CHECK.refused(house, "offset of no colourway", NONE_SUCH, () -> house.offset(1, 100));
        CHECK.refused(house, "offset of lot -1", WRONG, () -> house.offset(0, -1));
        CHECK.refused(house, "offset of lot 100", WRONG, () -> house.offset(0, 100));
        CHECK.refused(house, "offset without walls", UNFIT, () -> house.offset(0, 5));
        CHECK.refused(house, "hang of no colourway", NONE_SUCH, () -> house.hang(-1, 100));
        CHECK.refused(house, "hang of lot -1", WRONG, () -> house.hang(0, -1));
        CHECK.refused(house, "hang of lot 100", WRONG, () -> house.hang(0, 100));
        CHECK.refused(house, "hang without walls", UNFIT, () -> house.hang(0, 5));
        house.wall(2, 11);
        CHECK.refused(house, "offset of a wall that is too high", MISSING, () -> house.offset(0, 5));
        CHECK.refused(house, "hang of a wall that is too high", MISSING, () -> house.hang(0, 5));
        CHECK.refused(house, "hang from a lot without rolls", MISSING, () -> house.hang(0, 6));
        house.opening(0, 2);
        CHECK.due("offset without a strip to be hung", house.offset(0, 5), 0);
        CHECK.due("hang without a strip to be hung", house.hang(0, 5), 0);
        CHECK.due("from a lot without rolls, too", house.hang(0, 6), 0);
        CHECK.due("no roll was begun", house.lengthOf(0), 10);
    }

    private static void hangStraight() {
        Repeatroll house = stocked(2, 4, 's', 24, 12);
        house.wall(4, 3);
        CHECK.due("both from one roll", house.hang(0, 5), 1);
        CHECK.due("what is left of it: 0 to 3 and 4 to 7", house.lengthOf(0), 5);
        CHECK.due("the other one stays", house.lengthOf(1), 12);
        CHECK.due("the walls stay: one strip of the rest, one of the next", house.hang(0, 5), 2);
        CHECK.due("what is left of the rest", house.lengthOf(0), 2);
        CHECK.due("what is left of the next", house.lengthOf(1), 9);
        CHECK.due("the number of rolls stays", house.rolls(), 2);
        CHECK.due("their places stay", house.placeOf(1), 12);
        CHECK.due("a roll is begun though nothing fits on it", house.hang(0, 5), 2);
        CHECK.due("and all of it is left", house.lengthOf(0), 2);
        CHECK.due("the next one has the strips", house.lengthOf(1), 2);
    }

    private static void hangHalfDrop() {
        Repeatroll house = stocked(2, 4, 'd', 20, 20);
        house.wall(6, 4);
        CHECK.due("three strips of one roll", house.hang(0, 5), 1);
        CHECK.due("0 to 4, 6 to 10, 12 to 16", house.lengthOf(0), 4);
        Repeatroll other = stocked(2, 4, 'd', 20, 20);
        other.wall(6, 2);
        other.opening(2, 4);
        CHECK.due("a strip that is not hung counts", other.hang(0, 5), 1);
        CHECK.due("0 to 2, 4 to 6", other.lengthOf(0), 14);
    }

    private static void hangTurned() {
        Repeatroll house = stocked(2, 3, 't', 20, 20);
        house.wall(4, 2);
        CHECK.due("two strips of one roll", house.hang(0, 5), 1);
        CHECK.due("0 to 2, 3 to 5", house.lengthOf(0), 15);
        CHECK.due("once more, from the beginning of what is left", house.hang(0, 5), 1);
        CHECK.due("the same again", house.lengthOf(0), 10);
        house.empties();
        house.wall(4, 4);
        CHECK.refused(house, "two strips that do not fit", MISSING, () -> house.hang(0, 5));
    }

    private static void hangMostLeft() {
        Repeatroll house = stocked(4, 4, 'd', 30, 10);
        house.wall(9, 6);
        house.wall(4, 5);
        house.opening(4, 8);
        CHECK.due("the first test under shared: the offset", house.offset(0, 5), 0);
        CHECK.due("three rolls", house.hang(0, 5), 3);
        CHECK.due("left of the first", house.lengthOf(0), 4);
        CHECK.due("left of the second", house.lengthOf(1), 4);
        CHECK.due("left of the third", house.lengthOf(2), 3);
        Repeatroll other = stocked(2, 6, 'd', 16, 8);
        other.wall(4, 5);
        CHECK.due("offset 0: odd ones at 3; offset 3: even ones at 3", other.offset(0, 5), 0);
        CHECK.due("two rolls", other.hang(0, 5), 2);
        CHECK.due("the even strip at 0", other.lengthOf(0), 3);
        CHECK.due("the odd strip at 3", other.lengthOf(1), 0);
    }

    private static void hangOthers() {
        Repeatroll house = stocked(2, 2, 's', 10, 5);
        house.colourway(0);
        house.web(1, 10, 5, 0, 0);
        house.web(0, 10, 6, 0, 0);
        house.web(0, 10, 5, 0, 0);
        house.cut(1, 5, 0);
        house.cut(2, 5, 0);
        house.cut(3, 5, 0);
        house.wall(6, 5);
        CHECK.due("rolls of the colourway and lot alone", house.hang(0, 5), 3);
        int[] left = {0, 0, 5, 5, 5, 5, 0, 5};
        for (int roll = 0; roll < left.length; roll++) {
            CHECK.due("left of roll " + roll, house.lengthOf(roll), left[roll]);
        }
        house.empties();
        house.wall(2, 5);
        CHECK.due("rolls of which nothing is left are not begun", house.hang(0, 5), 1);
        CHECK.due("the last one is", house.lengthOf(7), 0);
    }

    /** 1200 places and 600 strips: 20 of the height 5 go on each roll of 100, so 30 rolls are begun. */
    private static void hangTheWidest() {
        Repeatroll house = new Repeatroll();
        house.motif(2, 5, 's');
        house.colourway(0);
        house.licence(0, 0, 0);
        for (int web = 0; web < 10; web++) {
            house.web(0, 300, 99, 0, 0);
            CHECK.due("three rolls of a web", house.cut(web, 100, 0), 3);
        }
        for (int wall = 1; wall <= 6; wall++) {
            CHECK.due("the widest walls", house.wall(200, 5), 200 * wall);
        }
        CHECK.due("the most strips", house.strips(0), 600);
        CHECK.due("the last strip", house.need(0, 599), 5);
        CHECK.due("an opening at the end of all", house.opening(1198, 1200), 1);
        CHECK.due("the last strip is not hung now", house.need(0, 599), 0);
        CHECK.due("all rolls are begun", house.hang(0, 99), 30);
        CHECK.due("but for one strip all is gone", house.meanRoll(), 5.0 / 30.0);
        CHECK.due("what is left is on the last one", house.lengthOf(29), 5);
        CHECK.refused(house, "once more", MISSING, () -> house.hang(0, 99));
    }
}
