/** Promises 10 to 18: inks, colourways, cylinders, contrast and false twins. */
public final class InksTest {
    private static final Class<IndexOutOfBoundsException> NONE_SUCH = IndexOutOfBoundsException.class;
    private static final Class<IllegalArgumentException> WRONG = IllegalArgumentException.class;
    private static final Class<IllegalStateException> FULL = IllegalStateException.class;
    private static final Class<UnsupportedOperationException> UNFIT = UnsupportedOperationException.class;
    private static final Class<ArithmeticException> NO_MEAN = ArithmeticException.class;
    private static final Check CHECK = new Check("InksTest");

    private InksTest() {
    }

    public static void main(String[] args) {
        ink();
        over();
        colourway();
        dye();
        isWhole();
        cylinders();
        cylindersOfPairs();
        made();
        contrast();
        falseTwins();
        CHECK.end();
    }

    private static void ink() {
        Repeatroll house = new Repeatroll();
        CHECK.refused(house, "ink -1 under lamp 0", WRONG, () -> house.ink(-1, 0, 0));
        CHECK.refused(house, "ink 101 under lamp 1", WRONG, () -> house.ink(0, 101, 0));
        CHECK.refused(house, "ink 101 under lamp 2", WRONG, () -> house.ink(0, 0, 101));
        for (int number = 0; number < 10; number++) {
            CHECK.due("ink " + number, house.ink(100, 0, number), number);
        }
        CHECK.refused(house, "an eleventh ink", FULL, () -> house.ink(1, 1, 1));
        CHECK.refused(house, "an eleventh ink out of range", WRONG, () -> house.ink(1, 1, 101));
    }

    private static void over() {
        Repeatroll house = new Repeatroll();
        house.ink(99, 50, 100);
        house.ink(99, 33, 7);
        CHECK.due("over under lamp 0, cut", house.over(0, 1, 0), 98);
        CHECK.due("over under lamp 1, cut", house.over(0, 1, 1), 16);
        CHECK.due("over under lamp 2", house.over(1, 0, 2), 7);
        CHECK.due("an ink over itself", house.over(1, 1, 1), 10);
        CHECK.refused(house, "over of no ink", NONE_SUCH, () -> house.over(2, 0, 0));
        CHECK.refused(house, "over no ink", NONE_SUCH, () -> house.over(0, -1, 0));
        CHECK.refused(house, "over under lamp 3", NONE_SUCH, () -> house.over(0, 0, 3));
        CHECK.refused(house, "over under lamp -1", NONE_SUCH, () -> house.over(0, 0, -1));
    }

    private static void colourway() {
        Repeatroll house = new Repeatroll();
        CHECK.refused(house, "colourway of no motif", NONE_SUCH, () -> house.colourway(0));
        house.motif(2, 2, 's');
        for (int number = 0; number < 8; number++) {
            CHECK.due("colourway " + number, house.colourway(0), number);
        }
        CHECK.refused(house, "a ninth colourway", FULL, () -> house.colourway(0));
        CHECK.refused(house, "a ninth colourway of no motif", NONE_SUCH, () -> house.colourway(1));
    }

    private static void dye() {
        Repeatroll house = new Repeatroll();
        house.motif(4, 4, 's');
        house.colourway(0);
        house.ink(10, 10, 10);
        house.ink(20, 20, 20);
        house.paint(0, 0, 0, 2, 2, 1);
        CHECK.due("the first dye", house.dye(0, 1, 1), -1);
        CHECK.due("the second dye", house.dye(0, 1, 0), 1);
        CHECK.due("dye of a colour that no cell has", house.dye(0, 7, 1), -1);
        house.slip(0, 0, 1, 0);
        house.spread(0, 0, true);
        CHECK.due("stained before the dye", house.stained(0) > 0, true);
        CHECK.due("the same ink again", house.dye(0, 7, 1), 1);
        CHECK.due("stained behind the dye", house.stained(0), 0);
        CHECK.due("the slip is gone", house.slip(0, 0, 0, 0), 33);
        CHECK.due("the spread is gone", house.spread(0, 0, false), false);
        CHECK.refused(house, "dye of no colourway", NONE_SUCH, () -> house.dye(1, 0, 0));
        CHECK.refused(house, "dye of colourway -1", NONE_SUCH, () -> house.dye(-1, 1, 0));
        CHECK.refused(house, "dye with no ink", NONE_SUCH, () -> house.dye(0, 0, 2));
        CHECK.refused(house, "dye with ink -1", NONE_SUCH, () -> house.dye(0, 1, -1));
        CHECK.refused(house, "dye of the ground", WRONG, () -> house.dye(0, 0, 0));
        CHECK.refused(house, "dye of colour 8", WRONG, () -> house.dye(0, 8, 0));
    }

    private static void isWhole() {
        Repeatroll house = new Repeatroll();
        house.motif(3, 3, 's');
        house.colourway(0);
        house.ink(1, 2, 3);
        CHECK.due("without colours", house.isWhole(0), true);
        house.paint(0, 1, 1, 1, 1, 7);
        CHECK.due("with a colour without ink", house.isWhole(0), false);
        house.dye(0, 6, 0);
        CHECK.due("with an ink for another colour", house.isWhole(0), false);
        house.dye(0, 7, 0);
        CHECK.due("with the ink", house.isWhole(0), true);
        house.paint(0, 0, 0, 1, 1, 1);
        CHECK.due("with a further colour", house.isWhole(0), false);
        CHECK.refused(house, "isWhole of no colourway", NONE_SUCH, () -> house.isWhole(1));
    }

    private static void cylinders() {
        Repeatroll house = new Repeatroll();
        house.motif(4, 2, 's');
        house.colourway(0);
        CHECK.due("cylinders without colours", house.cylinders(0), 0);
        house.ink(50, 50, 50);
        house.ink(80, 80, 80);
        house.ink(40, 40, 40);
        house.paint(0, 0, 0, 1, 1, 1);
        CHECK.refused(house, "cylinders of one that is not whole", UNFIT, () -> house.cylinders(0));
        house.dye(0, 1, 2);
        CHECK.due("one ink by itself, not two that make it", house.cylinders(0), 4);
        house.paint(0, 1, 0, 1, 1, 2);
        house.dye(0, 2, 0);
        CHECK.due("two inks: the set of the least sum", house.cylinders(0), 3);
        house.paint(0, 2, 0, 1, 1, 3);
        house.dye(0, 3, 1);
        CHECK.due("three colours of two cylinders", house.cylinders(0), 3);
        house.dye(0, 3, 2);
        house.dye(0, 1, 0);
        CHECK.due("two colours of one ink", house.cylinders(0), 3);
        CHECK.refused(house, "cylinders of no colourway", NONE_SUCH, () -> house.cylinders(1));
    }

    private static void cylindersOfPairs() {
        Repeatroll house = new Repeatroll();
        house.motif(4, 2, 's');
        house.colourway(0);
        house.ink(50, 50, 50);
        house.ink(25, 25, 25);
        house.paint(0, 0, 0, 1, 1, 1);
        house.paint(0, 1, 0, 1, 1, 2);
        house.dye(0, 1, 0);
        house.dye(0, 2, 1);
        CHECK.due("an ink over itself makes none", house.cylinders(0), 3);
        house.ink(50, 50, 50);
        CHECK.due("two inks of one lightness do", house.cylinders(0), 3);
        CHECK.due("the ink goes ahead of the pair", house.made(0, 2), 2);
        house.paint(0, 2, 0, 1, 1, 3);
        house.dye(0, 3, 2);
        CHECK.due("fewer than three are taken", house.cylinders(0), 5);
        CHECK.due("and the pair makes the second colour", house.made(0, 2), 5);
        house.ink(25, 26, 25);
        house.dye(0, 2, 3);
        CHECK.due("one lamp that is unlike is enough", house.cylinders(0), 13);
    }

    private static void made() {
        Repeatroll house = new Repeatroll();
        house.motif(4, 2, 's');
        house.colourway(0);
        house.ink(20, 20, 20);
        house.ink(40, 40, 40);
        house.ink(50, 50, 50);
        house.ink(100, 100, 100);
        house.ink(90, 90, 90);
        CHECK.due("a colour that no cell has", house.made(0, 7), 0);
        for (int colour = 1; colour < 5; colour++) {
            house.paint(0, colour - 1, 0, 1, 1, colour);
        }
        CHECK.refused(house, "made in one that is not whole", UNFIT, () -> house.made(0, 1));
        house.dye(0, 1, 0);
        house.dye(0, 2, 1);
        house.dye(0, 3, 2);
        house.dye(0, 4, 4);
        CHECK.due("the set", house.cylinders(0), 22);
        CHECK.due("made by two, the least numbers", house.made(0, 1), 6);
        CHECK.due("made by itself", house.made(0, 2), 2);
        CHECK.due("made by itself, too", house.made(0, 4), 16);
        CHECK.due("a colour without cells", house.made(0, 5), 0);
        CHECK.refused(house, "made in no colourway", NONE_SUCH, () -> house.made(1, 0));
        CHECK.refused(house, "made of the ground", WRONG, () -> house.made(0, 0));
        CHECK.refused(house, "made of colour 8", WRONG, () -> house.made(0, 8));
        house.paint(0, 0, 1, 1, 1, 6);
        CHECK.refused(house, "made of colour 8, not whole", WRONG, () -> house.made(0, 8));
    }

    private static void contrast() {
        Repeatroll house = new Repeatroll();
        house.motif(4, 3, 's');
        house.colourway(0);
        house.ink(10, 20, 30);
        house.ink(15, 50, 0);
        CHECK.refused(house, "contrast without pairs", NO_MEAN, () -> house.contrast(0, 0));
        house.paint(0, 0, 0, 1, 1, 1);
        CHECK.refused(house, "contrast of one that is not whole", UNFIT, () -> house.contrast(0, 0));
        CHECK.refused(house, "contrast of such a one under lamp 3", NONE_SUCH, () -> house.contrast(0, 3));
        house.dye(0, 1, 0);
        house.dye(0, 2, 1);
        house.dye(0, 3, 0);
        CHECK.refused(house, "contrast to the ground alone", NO_MEAN, () -> house.contrast(0, 0));
        house.paint(0, 3, 0, 1, 1, 2);
        CHECK.due("contrast around, lamp 0", house.contrast(0, 0), 5f);
        CHECK.due("contrast around, lamp 1", house.contrast(0, 1), 30f);
        CHECK.due("contrast around, lamp 2", house.contrast(0, 2), 30f);
        house.paint(0, 0, 1, 1, 1, 3);
        CHECK.due("a pair of one ink counts", house.contrast(0, 0), 2.5f);
        house.paint(0, 1, 1, 1, 1, 1);
        CHECK.due("a mean that is no whole number", house.contrast(0, 1), 10f);
        house.paint(0, 3, 2, 1, 1, 3);
        CHECK.due("a mean of four", house.contrast(0, 1), 60f / 4f);
        CHECK.refused(house, "contrast of no colourway", NONE_SUCH, () -> house.contrast(1, 0));
        CHECK.refused(house, "contrast under lamp -1", NONE_SUCH, () -> house.contrast(0, -1));
    }

    private static void falseTwins() {
        Repeatroll house = new Repeatroll();
        house.motif(4, 3, 's');
        house.colourway(0);
        house.ink(50, 50, 50);
        house.ink(52, 61, 50);
        house.ink(48, 50, 39);
        house.ink(53, 0, 0);
        house.ink(50, 60, 40);
        for (int colour = 1; colour < 6; colour++) {
            house.dye(0, colour, colour - 1);
        }
        CHECK.due("twins without cells", house.falseTwins(0), 0);
        house.paint(0, 0, 0, 1, 1, 1);
        house.paint(0, 2, 2, 1, 1, 2);
        CHECK.due("twins under lamp 1", house.falseTwins(0), 1);
        house.paint(0, 2, 2, 1, 1, 3);
        CHECK.due("twins under lamp 2", house.falseTwins(0), 1);
        house.paint(0, 2, 2, 1, 1, 4);
        CHECK.due("3 apart under lamp 0", house.falseTwins(0), 0);
        house.paint(0, 2, 2, 1, 1, 5);
        CHECK.due("10 apart under the others", house.falseTwins(0), 0);
        house.paint(0, 0, 0, 1, 1, 2);
        house.paint(0, 2, 2, 1, 1, 3);
        CHECK.due("4 apart under lamp 0", house.falseTwins(0), 0);
        house.paint(0, 1, 1, 1, 1, 1);
        CHECK.due("two pairs of three", house.falseTwins(0), 2);
        house.paint(0, 3, 0, 1, 1, 7);
        CHECK.refused(house, "twins in one that is not whole", UNFIT, () -> house.falseTwins(0));
        CHECK.refused(house, "twins in no colourway", NONE_SUCH, () -> house.falseTwins(1));
    }
}
