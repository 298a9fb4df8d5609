/** Promises 51 to 53: the mean of rolls, the checksum and soundness; and that houses are apart. */
public final class HouseTest {
    private static final Check CHECK = new Check("HouseTest");

    private HouseTest() {
    }

    public static void main(String[] args) {
        meanRoll();
        checksum();
        isSound();
        housesAreApart();
        CHECK.end();
    }

    private static Repeatroll licensed() {
        Repeatroll house = new Repeatroll();
        house.motif(2, 3, 's');
        house.colourway(0);
        house.licence(0, 0, 0);
        return house;
    }

    private static void meanRoll() {
        Repeatroll house = licensed();
        CHECK.refused(house, "mean without rolls", ArithmeticException.class, () -> house.meanRoll());
        house.web(0, 20, 0, 0, 0);
        house.web(0, 13, 0, 0, 0);
        house.cut(0, 10, 0);
        CHECK.due("mean of two rolls", house.meanRoll(), 10.0);
        house.cut(1, 12, 0);
        CHECK.due("mean of three rolls", house.meanRoll(), 32.0 / 3.0);
        house.wall(2, 10);
        house.hang(0, 0);
        CHECK.due("mean with one that is used up", house.meanRoll(), 22.0 / 3.0);
    }

    private static void checksum() {
        Repeatroll house = licensed();
        house.paint(0, 1, 0, 1, 1, 3);
        house.paint(0, 0, 2, 1, 1, 5);
        house.motif(2, 2, 't');
        house.paint(1, 1, 1, 1, 1, 7);
        int[] cells = {0, 3, 0, 0, 5, 0, 0, 0, 0, 7};
        long due = 7L;
        for (int colour : cells) {
            due = due * 31L + colour;
        }
        CHECK.due("checksum of cells, row by row", house.checksum(), due);
        house.paint(0, 0, 0, 2, 3, 0);
        house.paint(1, 0, 0, 2, 2, 0);
        house.web(0, 20, 4, -150, 0);
        house.web(0, 20, 4, 33, 0);
        house.cut(0, 12, 0);
        house.cut(1, 10, 0);
        house.wall(2, 9);
        house.hang(0, 4);
        due = 7L;
        for (int cell = 0; cell < 10; cell++) {
            due = due * 31L;
        }
        int[] left = {3, 10, 10};
        float[] shades = {-1.5f, 0.33f, 0.33f};
        for (int roll = 0; roll < 3; roll++) {
            due = due * 31L + left[roll];
            due = due * 31L + Float.floatToIntBits(shades[roll]);
        }
        CHECK.due("checksum of rolls", house.checksum(), due);
    }

    private static void isSound() {
        Repeatroll house = licensed();
        CHECK.due("sound with a motif", house.isSound(), true);
        house.paint(0, 0, 0, 1, 2, 1);
        CHECK.due("sound with one that is not whole", house.isSound(), true);
        house.ink(50, 60, 70);
        house.dye(0, 1, 0);
        house.slip(0, 0, 1, 1);
        house.spread(0, 0, true);
        CHECK.due("stained by the slip", house.stained(0) > 0, true);
        CHECK.due("sound with a slip and a spread", house.isSound(), true);
        house.web(0, 20, 4, 0, 0);
        house.cut(0, 10, 0);
        house.wall(4, 3);
        house.hang(0, 4);
        CHECK.due("sound with rolls that are begun", house.isSound(), true);
        house.motif(12, 12, 'd');
        house.motif(11, 11, 't');
        house.paint(1, 7, 7, 9, 9, 1);
        house.paint(2, 7, 7, 9, 9, 1);
        house.colourway(1);
        house.colourway(2);
        house.dye(1, 1, 0);
        house.dye(2, 1, 0);
        CHECK.due("sound with half drops and turned ones", house.isSound(), true);
        CHECK.due("what it looked at stays", house.slip(0, 0, 0, 0), 44);
    }

    private static void housesAreApart() {
        Repeatroll house = licensed();
        Repeatroll other = new Repeatroll();
        String before = Shot.of(other);
        house.paint(0, 0, 0, 2, 2, 1);
        house.ink(1, 2, 3);
        house.dye(0, 1, 0);
        house.run(0);
        house.wall(5, 5);
        house.web(0, 20, 0, 0, 0);
        house.cut(0, 10, 0);
        CHECK.due("another house", Shot.of(other), before);
    }
}
