import java.util.NoSuchElementException;

/** Promises 19 to 27: slips, spreads, what is bare or stained, rollers and streaks. */
public final class RegistersTest {
    private static final Class<IndexOutOfBoundsException> NONE_SUCH = IndexOutOfBoundsException.class;
    private static final Class<IllegalArgumentException> WRONG = IllegalArgumentException.class;
    private static final Class<IllegalStateException> FULL = IllegalStateException.class;
    private static final Class<UnsupportedOperationException> UNFIT = UnsupportedOperationException.class;
    private static final Class<NoSuchElementException> MISSING = NoSuchElementException.class;
    private static final Check CHECK = new Check("RegistersTest");

    private RegistersTest() {
    }

    public static void main(String[] args) {
        slip();
        slipStays();
        spread();
        bareAndStained();
        notWhole();
        roller();
        fits();
        streak();
        wipe();
        culprit();
        CHECK.end();
    }

    /** A motif of 5 by 5 with one cell of the colour 1, dyed with ink 1. */
    private static Repeatroll dotted() {
        Repeatroll house = new Repeatroll();
        house.motif(5, 5, 's');
        house.ink(90, 90, 90);
        house.ink(40, 40, 40);
        house.colourway(0);
        house.paint(0, 0, 0, 1, 1, 1);
        house.dye(0, 1, 1);
        return house;
    }

    private static void slip() {
        Repeatroll house = dotted();
        CHECK.due("no slip before", house.slip(0, 1, -3, 3), 33);
        CHECK.due("slip -3, 3 before", house.slip(0, 1, 3, -3), 6);
        CHECK.due("slip 3, -3 before", house.slip(0, 1, 2, 1), 60);
        CHECK.due("slip 2, 1 before", house.slip(0, 1, 0, 0), 54);
        CHECK.refused(house, "slip in no colourway", NONE_SUCH, () -> house.slip(1, 1, 4, 0));
        CHECK.refused(house, "slip along -4", WRONG, () -> house.slip(0, 1, -4, 0));
        CHECK.refused(house, "slip along 4", WRONG, () -> house.slip(0, 1, 4, 0));
        CHECK.refused(house, "slip up -4", WRONG, () -> house.slip(0, 1, 0, -4));
        CHECK.refused(house, "slip up 4 of no cylinder", WRONG, () -> house.slip(0, 0, 0, 4));
        CHECK.refused(house, "slip of an ink that is no cylinder", UNFIT, () -> house.slip(0, 0, 0, 0));
        CHECK.refused(house, "slip of no ink", UNFIT, () -> house.slip(0, 2, 0, 0));
        CHECK.refused(house, "slip of ink -1", UNFIT, () -> house.slip(0, -1, 0, 0));
        CHECK.refused(house, "slip of ink 33", UNFIT, () -> house.slip(0, 33, 0, 0));
    }

    private static void slipStays() {
        Repeatroll house = dotted();
        house.slip(0, 1, 1, 0);
        house.spread(0, 1, true);
        house.paint(0, 0, 0, 1, 1, 0);
        CHECK.due("no cylinder is left", house.cylinders(0), 0);
        CHECK.refused(house, "slip of an ink that is needed no more", UNFIT, () -> house.slip(0, 1, 0, 0));
        house.paint(0, 3, 3, 1, 1, 1);
        CHECK.due("the spread stays with the ink", house.spread(0, 1, false), true);
        CHECK.due("the slip stays with the ink", house.slip(0, 1, 0, 0), 43);
        house.colourway(0);
        house.dye(1, 1, 1);
        house.slip(0, 1, 2, 2);
        CHECK.due("another colourway has its own", house.slip(1, 1, 0, 0), 33);
    }

    private static void spread() {
        Repeatroll house = dotted();
        CHECK.due("not spread before", house.spread(0, 1, true), false);
        CHECK.due("spread before", house.spread(0, 1, true), true);
        CHECK.due("stained by the spread", house.stained(0), 4);
        CHECK.due("spread before, too", house.spread(0, 1, false), true);
        CHECK.due("not spread any more", house.stained(0), 0);
        CHECK.refused(house, "spread in no colourway", NONE_SUCH, () -> house.spread(1, 1, true));
        CHECK.refused(house, "spread of an ink that is no cylinder", UNFIT, () -> house.spread(0, 0, true));
        CHECK.refused(house, "spread of no ink", UNFIT, () -> house.spread(0, 10, true));
        CHECK.refused(house, "spread of ink 33", UNFIT, () -> house.spread(0, 33, true));
    }

    private static void bareAndStained() {
        Repeatroll house = new Repeatroll();
        house.motif(2, 2, 's');
        house.paint(0, 0, 0, 2, 1, 1);
        house.ink(50, 50, 50);
        house.colourway(0);
        house.dye(0, 1, 0);
        house.slip(0, 0, 0, 1);
        CHECK.due("bare of the second example", house.bare(0), 2);
        CHECK.due("stained of the second example", house.stained(0), 2);
        house.motif(4, 4, 's');
        house.paint(1, 0, 0, 2, 1, 1);
        house.paint(1, 2, 0, 2, 1, 2);
        house.paint(1, 0, 2, 1, 1, 3);
        house.ink(80, 80, 80);
        house.ink(40, 40, 40);
        house.colourway(1);
        house.dye(1, 1, 0);
        house.dye(1, 2, 1);
        house.dye(1, 3, 2);
        CHECK.due("two cylinders", house.cylinders(1), 3);
        house.slip(1, 0, -1, 0);
        CHECK.due("bare along, around", house.bare(1), 2);
        CHECK.due("stained along, around", house.stained(1), 2);
        house.spread(1, 0, true);
        CHECK.due("bare with a spread", house.bare(1), 0);
        CHECK.due("stained with a spread", house.stained(1), 8);
        Repeatroll dotted = dotted();
        CHECK.due("bare without a slip", dotted.bare(0), 0);
        CHECK.due("stained without a slip", dotted.stained(0), 0);
        dotted.slip(0, 1, 3, 3);
        CHECK.due("bare with a far slip", dotted.bare(0), 1);
        CHECK.due("stained with a far slip", dotted.stained(0), 1);
        dotted.slip(0, 1, 0, 1);
        dotted.spread(0, 1, true);
        CHECK.due("bare where the spread covers it", dotted.bare(0), 0);
        CHECK.due("stained where the spread covers it", dotted.stained(0), 4);
    }

    private static void notWhole() {
        Repeatroll house = dotted();
        house.paint(0, 1, 0, 1, 1, 2);
        CHECK.refused(house, "slip in one that is not whole", UNFIT, () -> house.slip(0, 1, 0, 0));
        CHECK.refused(house, "spread in one that is not whole", UNFIT, () -> house.spread(0, 1, true));
        CHECK.refused(house, "bare of one that is not whole", UNFIT, () -> house.bare(0));
        CHECK.refused(house, "stained of one that is not whole", UNFIT, () -> house.stained(0));
        CHECK.refused(house, "bare of no colourway", NONE_SUCH, () -> house.bare(-1));
        CHECK.refused(house, "stained of no colourway", NONE_SUCH, () -> house.stained(1));
    }

    private static void roller() {
        Repeatroll house = new Repeatroll();
        CHECK.refused(house, "roller of 1", WRONG, () -> house.roller(1));
        CHECK.refused(house, "roller of 201", WRONG, () -> house.roller(201));
        int[] circumferences = {2, 200, 7, 7, 100, 3};
        for (int number = 0; number < 6; number++) {
            CHECK.due("roller " + number, house.roller(circumferences[number]), number);
        }
        CHECK.refused(house, "a seventh roller", FULL, () -> house.roller(5));
        CHECK.refused(house, "a seventh roller of 1", WRONG, () -> house.roller(1));
    }

    private static void fits() {
        Repeatroll house = new Repeatroll();
        house.motif(2, 6, 's');
        house.motif(2, 6, 't');
        house.motif(5, 6, 'd');
        house.roller(18);
        house.roller(24);
        house.roller(3);
        CHECK.due("s of 6 on 18", house.fits(0, 0), true);
        CHECK.due("t of 12 on 18", house.fits(1, 0), false);
        CHECK.due("t of 12 on 24", house.fits(1, 1), true);
        CHECK.due("d of 6 on 18", house.fits(2, 0), true);
        CHECK.due("s of 6 on 3", house.fits(0, 2), false);
        CHECK.refused(house, "no motif on a roller", NONE_SUCH, () -> house.fits(3, 0));
        CHECK.refused(house, "a motif on no roller", NONE_SUCH, () -> house.fits(0, 3));
        CHECK.refused(house, "a motif on roller -1", NONE_SUCH, () -> house.fits(0, -1));
    }

    private static void streak() {
        Repeatroll house = new Repeatroll();
        CHECK.refused(house, "streak at -1", WRONG, () -> house.streak(-1));
        CHECK.refused(house, "streak at 100000", WRONG, () -> house.streak(100000));
        CHECK.due("streak at 0", house.streak(0), 1);
        CHECK.refused(house, "streak at 0 again", WRONG, () -> house.streak(0));
        for (int number = 2; number < 10; number++) {
            CHECK.due("streak " + number, house.streak(number), number);
        }
        CHECK.refused(house, "streak below the one ahead", WRONG, () -> house.streak(8));
        CHECK.due("streak at 99999", house.streak(99999), 10);
        house.wipe();
        for (int number = 0; number < 10; number++) {
            house.streak(number);
        }
        CHECK.refused(house, "an eleventh streak", FULL, () -> house.streak(10));
        CHECK.refused(house, "an eleventh streak, not greater", WRONG, () -> house.streak(9));
    }

    private static void wipe() {
        Repeatroll house = new Repeatroll();
        CHECK.due("wipe of none", house.wipe(), 0);
        house.streak(50);
        house.streak(60);
        CHECK.due("wipe of two", house.wipe(), 2);
        CHECK.due("a lower streak behind a wipe", house.streak(1), 1);
        CHECK.due("wipe of one", house.wipe(), 1);
    }

    private static void culprit() {
        Repeatroll house = new Repeatroll();
        CHECK.refused(house, "culprit without streaks", UNFIT, () -> house.culprit());
        house.streak(3);
        CHECK.refused(house, "culprit of one streak", UNFIT, () -> house.culprit());
        house.streak(63);
        CHECK.refused(house, "culprit without rollers", MISSING, () -> house.culprit());
        house.roller(7);
        CHECK.refused(house, "culprit among others", MISSING, () -> house.culprit());
        house.roller(20);
        house.roller(30);
        house.roller(30);
        CHECK.due("the greatest, then the lowest", house.culprit(), 2);
        house.streak(103);
        CHECK.due("all differences count", house.culprit(), 1);
        house.streak(104);
        CHECK.refused(house, "culprit of a difference of 1", MISSING, () -> house.culprit());
        house.wipe();
        house.streak(1);
        house.streak(15);
        CHECK.due("the place of the first does not count", house.culprit(), 0);
    }
}
