import java.util.NoSuchElementException;

/** Promises 40 to 43: runs that wait, with washes between. */
public final class RunsTest {
    private static final Class<IndexOutOfBoundsException> NONE_SUCH = IndexOutOfBoundsException.class;
    private static final Class<IllegalStateException> FULL = IllegalStateException.class;
    private static final Class<UnsupportedOperationException> UNFIT = UnsupportedOperationException.class;
    private static final Class<NoSuchElementException> MISSING = NoSuchElementException.class;
    private static final Check CHECK = new Check("RunsTest");

    private RunsTest() {
    }

    public static void main(String[] args) {
        run();
        washes();
        runAt();
        start();
        CHECK.end();
    }

    /** Colourways of the cylinders 0 and 1, 2 and 3, 0 and 2, and of none. */
    private static Repeatroll coloured() {
        Repeatroll house = new Repeatroll();
        house.motif(2, 2, 's');
        house.motif(2, 2, 's');
        house.paint(0, 0, 0, 1, 1, 1);
        house.paint(0, 1, 1, 1, 1, 2);
        int[] lights = {91, 83, 71, 67};
        for (int light : lights) {
            house.ink(light, light, light);
        }
        int[][] dyes = {{0, 1}, {2, 3}, {0, 2}};
        for (int number = 0; number < dyes.length; number++) {
            house.colourway(0);
            house.dye(number, 1, dyes[number][0]);
            house.dye(number, 2, dyes[number][1]);
        }
        house.colourway(1);
        return house;
    }

    private static void run() {
        Repeatroll house = coloured();
        CHECK.due("the first run", house.run(0), 1);
        house.dye(0, 1, 3);
        house.dye(0, 2, 3);
        CHECK.due("its cylinders are those as it was told", house.washes(), 2);
        CHECK.due("the same colourway again", house.run(0), 2);
        CHECK.due("with those that it has now", house.washes(), 4);
        CHECK.refused(house, "run of no colourway", NONE_SUCH, () -> house.run(4));
        house.paint(1, 0, 0, 1, 1, 1);
        CHECK.refused(house, "run of one that is not whole", UNFIT, () -> house.run(3));
        for (int number = 3; number <= 6; number++) {
            CHECK.due("run " + number, house.run(0), number);
        }
        CHECK.refused(house, "a seventh run", FULL, () -> house.run(0));
        CHECK.refused(house, "a seventh run of one that is not whole", UNFIT, () -> house.run(3));
        CHECK.refused(house, "a seventh run of no colourway", NONE_SUCH, () -> house.run(-1));
    }

    private static void washes() {
        Repeatroll house = coloured();
        CHECK.due("washes without runs", house.washes(), 0);
        house.run(3);
        CHECK.due("washes of a run without cylinders", house.washes(), 0);
        house.run(0);
        CHECK.due("from nothing to two", house.washes(), 2);
        house.run(1);
        CHECK.due("and to two others", house.washes(), 6);
        house.run(2);
        CHECK.due("one between shares one with each", house.washes(), 6);
        house.run(2);
        CHECK.due("the same again costs nothing", house.washes(), 6);
    }

    private static void runAt() {
        Repeatroll house = coloured();
        CHECK.refused(house, "run at 0 of none", MISSING, () -> house.runAt(0));
        house.run(0);
        house.run(1);
        house.run(2);
        CHECK.due("first", house.runAt(0), 0);
        CHECK.due("between", house.runAt(1), 2);
        CHECK.due("last", house.runAt(2), 1);
        house.run(0);
        CHECK.due("of equal orders the first: 0", house.runAt(0), 0);
        CHECK.due("of equal orders the first: 3", house.runAt(1), 3);
        CHECK.due("of equal orders the first: 2", house.runAt(2), 2);
        CHECK.due("of equal orders the first: 1", house.runAt(3), 1);
        CHECK.refused(house, "run at -1", MISSING, () -> house.runAt(-1));
        CHECK.refused(house, "run at 4", MISSING, () -> house.runAt(4));
    }

    private static void start() {
        Repeatroll house = coloured();
        CHECK.refused(house, "start of none", MISSING, () -> house.start());
        house.run(0);
        house.run(1);
        house.run(3);
        CHECK.due("first of the best order", house.runAt(0), 0);
        CHECK.due("second of the best order", house.runAt(1), 2);
        CHECK.due("the first goes first", house.start(), 0);
        CHECK.due("the others moved up", house.runAt(0), 1);
        CHECK.due("washes of those left", house.washes(), 2);
        CHECK.due("then the run without cylinders", house.start(), 3);
        CHECK.due("the last is the first now", house.runAt(0), 0);
        CHECK.due("washes of the last", house.washes(), 2);
        CHECK.due("then the last", house.start(), 1);
        CHECK.due("washes of none", house.washes(), 0);
        CHECK.refused(house, "start of none that is left", MISSING, () -> house.start());
    }
}
