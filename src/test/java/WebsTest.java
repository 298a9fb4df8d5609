import java.util.NoSuchElementException;

/** Promises 28 to 39: licences, days, webs, faults, rolls, shades and standards. */
public final class WebsTest {
    private static final Class<IndexOutOfBoundsException> NONE_SUCH = IndexOutOfBoundsException.class;
    private static final Class<IllegalArgumentException> WRONG = IllegalArgumentException.class;
    private static final Class<IllegalStateException> FULL = IllegalStateException.class;
    private static final Class<UnsupportedOperationException> UNFIT = UnsupportedOperationException.class;
    private static final Class<NoSuchElementException> MISSING = NoSuchElementException.class;
    private static final Check CHECK = new Check("WebsTest");

    private WebsTest() {
    }

    public static void main(String[] args) {
        licence();
        days();
        web();
        mark();
        cut();
        cutAroundFaults();
        cutTooMany();
        rollsOfWebs();
        shades();
        standards();
        matches();
        CHECK.end();
    }

    private static Repeatroll licensed() {
        Repeatroll house = new Repeatroll();
        house.motif(2, 2, 's');
        house.colourway(0);
        house.licence(0, 0, 9999);
        return house;
    }

    private static void licence() {
        Repeatroll house = new Repeatroll();
        house.motif(2, 2, 's');
        house.colourway(0);
        CHECK.due("the first licence", house.licence(0, 5, 5), -1);
        CHECK.refused(house, "a web before the licence", UNFIT, () -> house.web(0, 10, 0, 0, 0));
        CHECK.due("a licence in its place", house.licence(0, 0, 1), 5);
        CHECK.due("a web on the first day", house.web(0, 10, 0, 0, 0), 0);
        house.days(1);
        CHECK.due("a web on the last day", house.web(0, 10, 0, 0, 0), 1);
        house.days(1);
        CHECK.refused(house, "a web behind the licence", UNFIT, () -> house.web(0, 10, 0, 0, 0));
        CHECK.due("a licence to the last day", house.licence(0, 9999, 9999), 1);
        CHECK.refused(house, "licence of no motif", NONE_SUCH, () -> house.licence(1, -1, 0));
        CHECK.refused(house, "licence from -1", WRONG, () -> house.licence(0, -1, 0));
        CHECK.refused(house, "licence from 10000", WRONG, () -> house.licence(0, 10000, 10001));
        CHECK.refused(house, "licence to a day below", WRONG, () -> house.licence(0, 5, 4));
        CHECK.due("what the others left", house.licence(0, 0, 0), 9999);
    }

    private static void days() {
        Repeatroll house = new Repeatroll();
        CHECK.refused(house, "0 days", WRONG, () -> house.days(0));
        CHECK.refused(house, "100 days", WRONG, () -> house.days(100));
        for (int time = 1; time <= 101; time++) {
            CHECK.due("99 days more", house.days(99), 99 * time);
        }
        CHECK.refused(house, "a day above 9999", FULL, () -> house.days(1));
        CHECK.refused(house, "0 days at the end", WRONG, () -> house.days(0));
        Repeatroll other = new Repeatroll();
        for (int time = 0; time < 100; time++) {
            other.days(99);
        }
        CHECK.due("the day 9998", other.days(98), 9998);
        CHECK.refused(other, "2 days more", FULL, () -> other.days(2));
        CHECK.due("the day 9999", other.days(1), 9999);
    }

    private static void web() {
        Repeatroll house = new Repeatroll();
        house.motif(2, 2, 's');
        house.colourway(0);
        CHECK.refused(house, "web of no colourway", NONE_SUCH, () -> house.web(1, 9, 0, 0, 0));
        CHECK.refused(house, "web of 9", WRONG, () -> house.web(0, 9, 0, 0, 0));
        CHECK.refused(house, "web of 301", WRONG, () -> house.web(0, 301, 0, 0, 0));
        CHECK.refused(house, "lot -1", WRONG, () -> house.web(0, 10, -1, 0, 0));
        CHECK.refused(house, "lot 100", WRONG, () -> house.web(0, 10, 100, 0, 0));
        CHECK.refused(house, "shade -10000", WRONG, () -> house.web(0, 10, 0, -10000, 0));
        CHECK.refused(house, "shade 10000", WRONG, () -> house.web(0, 10, 0, 10000, 0));
        CHECK.refused(house, "drift -1000", WRONG, () -> house.web(0, 10, 0, 0, -1000));
        CHECK.refused(house, "drift 1000", WRONG, () -> house.web(0, 10, 0, 0, 1000));
        CHECK.refused(house, "web without a licence", UNFIT, () -> house.web(0, 10, 0, 0, 0));
        house.licence(0, 0, 0);
        house.paint(0, 0, 0, 1, 1, 1);
        CHECK.refused(house, "web of one that is not whole", UNFIT, () -> house.web(0, 10, 0, 0, 0));
        house.ink(1, 1, 1);
        house.dye(0, 1, 0);
        int[] lengths = {10, 300, 10, 10, 10, 10, 10, 10, 10, 10};
        for (int number = 0; number < 10; number++) {
            CHECK.due("web " + number, house.web(0, lengths[number], 99, -9999, 999), number);
        }
        CHECK.refused(house, "an eleventh web", FULL, () -> house.web(0, 10, 0, 9999, -999));
        house.days(1);
        CHECK.refused(house, "an eleventh web without a licence", UNFIT, () -> house.web(0, 10, 0, 0, 0));
    }

    private static void mark() {
        Repeatroll house = licensed();
        house.web(0, 20, 0, 0, 0);
        CHECK.due("mark at the first place", house.mark(0, 0, 4), 4);
        CHECK.due("mark there once more", house.mark(0, 0, 3), 7);
        CHECK.due("mark at the last place", house.mark(0, 19, 1), 1);
        CHECK.refused(house, "mark on no web", NONE_SUCH, () -> house.mark(1, 0, 0));
        CHECK.refused(house, "mark at -1", NONE_SUCH, () -> house.mark(0, -1, 1));
        CHECK.refused(house, "mark at the end", NONE_SUCH, () -> house.mark(0, 20, 9));
        CHECK.refused(house, "mark of 0 points", WRONG, () -> house.mark(0, 0, 0));
        CHECK.refused(house, "mark of 5 points", WRONG, () -> house.mark(0, 0, 5));
        CHECK.due("what the others left", house.mark(0, 0, 1), 8);
        house.cut(0, 10, 0);
        CHECK.refused(house, "mark on a cut web", UNFIT, () -> house.mark(0, 0, 1));
        CHECK.refused(house, "mark of 5 points on a cut web", WRONG, () -> house.mark(0, 0, 5));
    }

    private static void cut() {
        Repeatroll house = licensed();
        house.web(0, 30, 0, 0, 0);
        house.web(0, 30, 0, 0, 0);
        CHECK.refused(house, "cut of no web", NONE_SUCH, () -> house.cut(2, 4, 0));
        CHECK.refused(house, "cut to 4", WRONG, () -> house.cut(0, 4, 0));
        CHECK.refused(house, "cut to 101", WRONG, () -> house.cut(0, 101, 0));
        CHECK.refused(house, "cut with -1 points", WRONG, () -> house.cut(0, 5, -1));
        CHECK.refused(house, "cut with 21 points", WRONG, () -> house.cut(0, 5, 21));
        CHECK.due("a web of which none can be made", house.cut(0, 31, 20), 0);
        CHECK.refused(house, "which is cut, too", UNFIT, () -> house.cut(0, 5, 0));
        CHECK.refused(house, "wrongly", WRONG, () -> house.cut(0, 5, 21));
        CHECK.due("a web cut without rest", house.cut(1, 10, 0), 3);
        CHECK.due("the first place", house.placeOf(0), 0);
        CHECK.due("the second place", house.placeOf(1), 10);
        CHECK.due("the third place", house.placeOf(2), 20);
    }

    private static void cutAroundFaults() {
        Repeatroll house = licensed();
        house.web(0, 40, 0, 0, 0);
        house.mark(0, 3, 1);
        house.mark(0, 12, 2);
        house.mark(0, 14, 1);
        house.mark(0, 33, 4);
        CHECK.due("rolls around faults", house.cut(0, 10, 2), 3);
        CHECK.due("the first begins at once", house.placeOf(0), 0);
        CHECK.due("the second one behind 3 points", house.placeOf(1), 13);
        CHECK.due("the third one at once behind it", house.placeOf(2), 23);
        house.web(0, 20, 0, 0, 0);
        house.mark(1, 9, 4);
        house.mark(1, 10, 4);
        CHECK.due("as many points as may be", house.cut(1, 10, 4), 2);
        house.web(0, 20, 0, 0, 0);
        house.mark(2, 9, 4);
        house.mark(2, 10, 4);
        CHECK.due("a point too many", house.cut(2, 10, 3), 0);
    }

    private static void cutTooMany() {
        Repeatroll house = licensed();
        house.web(0, 295, 0, 0, 0);
        house.web(0, 10, 0, 0, 0);
        CHECK.due("59 rolls", house.cut(0, 5, 0), 59);
        CHECK.refused(house, "61 rolls", FULL, () -> house.cut(1, 5, 0));
        house.mark(1, 0, 1);
        CHECK.due("60 rolls", house.cut(1, 5, 0), 1);
        house.web(0, 10, 0, 0, 0);
        CHECK.due("60 rolls and none more", house.cut(2, 11, 0), 0);
        CHECK.due("all rolls", house.rolls(), 60);
    }

    private static void rollsOfWebs() {
        Repeatroll house = licensed();
        CHECK.due("no rolls", house.rolls(), 0);
        house.web(0, 30, 0, 0, 0);
        house.web(0, 30, 0, 100, 0);
        house.cut(1, 13, 0);
        house.cut(0, 15, 0);
        CHECK.due("rolls in the order of cutting", house.rolls(), 4);
        CHECK.due("length of one of the web 1", house.lengthOf(1), 13);
        CHECK.due("place of one of the web 1", house.placeOf(1), 13);
        CHECK.due("length of one of the web 0", house.lengthOf(2), 15);
        CHECK.due("place of one of the web 0", house.placeOf(3), 15);
        CHECK.refused(house, "place of roll 4", NONE_SUCH, () -> house.placeOf(4));
        CHECK.refused(house, "place of roll -1", NONE_SUCH, () -> house.placeOf(-1));
        CHECK.refused(house, "length of roll 4", NONE_SUCH, () -> house.lengthOf(4));
        CHECK.refused(house, "length of roll -1", NONE_SUCH, () -> house.lengthOf(-1));
        CHECK.refused(house, "shade of roll 4", NONE_SUCH, () -> house.shadeBits(4));
        CHECK.refused(house, "shade of roll -1", NONE_SUCH, () -> house.shadeBits(-1));
        house.wall(2, 15);
        house.hang(0, 0);
        CHECK.due("a roll of which nothing is left", house.lengthOf(2), 0);
        CHECK.due("its place stays", house.placeOf(3), 15);
    }

    private static void shades() {
        int[][] shadesAndDrifts = {{0, 0}, {125, -30}, {-9999, 999}, {9999, -999}, {1, 1}, {-1, 1}, {333, 7}, {0, -1}, {-50, 50}, {9999, 999}};
        Repeatroll house = licensed();
        int roll = 0;
        for (int number = 0; number < shadesAndDrifts.length; number++) {
            int shade = shadesAndDrifts[number][0];
            int drift = shadesAndDrifts[number][1];
            house.web(0, 300, 0, shade, drift);
            int rolls = house.cut(number, 59, 0);
            for (int next = 0; next < rolls; next++) {
                float due = shade / 100f;
                for (int place = 0; place < house.placeOf(roll); place++) {
                    due += drift / 1000f;
                }
                CHECK.due("shade of roll " + roll, house.shadeBits(roll), Float.floatToIntBits(due));
                roll++;
            }
        }
        CHECK.due("rolls of shades", roll, 50);
    }

    private static void standards() {
        Repeatroll house = licensed();
        house.colourway(0);
        house.colourway(0);
        CHECK.refused(house, "a standard that is none", MISSING, () -> house.standardBits(0));
        CHECK.refused(house, "the standard of no colourway", NONE_SUCH, () -> house.standardBits(3));
        CHECK.refused(house, "approve for no colourway", NONE_SUCH, () -> house.approve(3, 10000));
        CHECK.refused(house, "approve -10000", WRONG, () -> house.approve(0, -10000));
        CHECK.refused(house, "approve 10000", WRONG, () -> house.approve(0, 10000));
        CHECK.due("the first standard", house.approve(1, -9999), 1);
        CHECK.due("the second standard", house.approve(2, 1), 2);
        CHECK.due("the second standard again", house.approve(2, 9999), 2);
        CHECK.due("a standard below 0", house.standardBits(1), Float.floatToIntBits(-99.99f));
        house.approve(0, 0);
        CHECK.due("a standard of 0", house.standardBits(0), 0);
        float low = -99.99f;
        float high = 99.99f;
        for (int turn = 1; turn <= 110; turn++) {
            int gone = turn <= 100 ? 97 : 29;
            house.days(gone);
            for (int day = 0; day < gone; day++) {
                low *= 0.99f;
                high *= 0.99f;
            }
            CHECK.due("low standard, turn " + turn, house.standardBits(1), Float.floatToIntBits(low));
            CHECK.due("high standard, turn " + turn, house.standardBits(2), Float.floatToIntBits(high));
        }
        CHECK.due("the standard is below the least ordinary float", high < Float.MIN_NORMAL, true);
        CHECK.due("a standard of 0 stays", house.standardBits(0), 0);
        house.approve(2, 50);
        CHECK.due("a new standard has not faded", house.standardBits(2), Float.floatToIntBits(0.5f));
    }

    private static void matches() {
        Repeatroll house = licensed();
        house.web(0, 10, 0, 100, 0);
        house.cut(0, 10, 0);
        CHECK.refused(house, "matches without a standard", MISSING, () -> house.matches(0));
        CHECK.refused(house, "matches of no roll", NONE_SUCH, () -> house.matches(1));
        CHECK.refused(house, "matches of roll -1", NONE_SUCH, () -> house.matches(-1));
        int[] shades = {49, 50, 100, 150, 151};
        boolean[] due = {false, true, true, true, false};
        for (int number = 0; number < shades.length; number++) {
            house.approve(0, shades[number]);
            CHECK.due("matches " + shades[number], house.matches(0), due[number]);
        }
        house.approve(0, 150);
        house.days(1);
        CHECK.due("matches what has faded", house.matches(0), true);
        house.approve(0, 50);
        house.days(1);
        CHECK.due("matches what has faded too much", house.matches(0), false);
    }
}
