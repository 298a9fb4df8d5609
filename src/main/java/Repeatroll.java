import java.util.ArrayList;
import java.util.Arrays;
import java.util.NoSuchElementException;

/** A house of printed papers; ../shared/DOC.md is what it keeps to. */
public final class Repeatroll {
    private static final int MOST_MOTIFS = 6;
    private static final int LEAST_SIDE = 2;
    private static final int MOST_SIDE = 12;
    private static final int COLOURS = 8;
    private static final int MOST_PLACES = 4 * MOST_SIDE * MOST_SIDE;
    private static final int FARTHEST = 9999;
    private static final int MOST_INKS = 10;
    private static final int LAMPS = 3;
    private static final int MOST_COLOURWAYS = 8;
    private static final int MOST_SLIP = 3;
    private static final int MOST_ROLLERS = 6;
    private static final int MOST_STREAKS = 10;
    private static final int LAST_DAY = 9999;
    private static final int MOST_WEBS = 10;
    private static final int MOST_ROLLS = 60;
    private static final int MOST_LOT = 99;
    private static final int MOST_RUNS = 6;
    private static final int MOST_ORDERS = 720;
    private static final int MOST_WALLS = 6;
    private static final int MOST_WALL_WIDTH = 200;
    private static final int MOST_OPENINGS = 8;

    private final ArrayList<Motif> motifs;
    private final ArrayList<Ink> inks;
    private final ArrayList<Colourway> colourways;
    private final ArrayList<Web> webs;
    private final ArrayList<Roll> rolls;
    private final Rollers rollers;
    private final RunQueue queue;
    private final Room room;
    private final Cloth cloth;
    private final Mixer mixer;
    private final Hanging hanging;
    private final int[] starts;
    private int day;

    public Repeatroll() {
        this.motifs = new ArrayList<Motif>();
        this.inks = new ArrayList<Ink>();
        this.colourways = new ArrayList<Colourway>();
        this.webs = new ArrayList<Web>();
        this.rolls = new ArrayList<Roll>();
        this.rollers = new Rollers();
        this.queue = new RunQueue();
        this.room = new Room();
        this.cloth = new Cloth();
        this.mixer = new Mixer();
        this.hanging = new Hanging();
        this.starts = new int[MOST_ROLLS];
        this.day = 0;
    }

    public int motif(int width, int height, char repeat) throws IllegalArgumentException, IllegalStateException {
        refuseOutside(width, LEAST_SIDE, MOST_SIDE);
        refuseOutside(height, LEAST_SIDE, MOST_SIDE);
        if (repeat != 's' && repeat != 'd' && repeat != 't') {
            throw new IllegalArgumentException("there is no such repeat");
        }
        if (repeat == 'd' && height % 2 != 0) {
            throw new IllegalArgumentException("a half drop needs an even height");
        }
        if (motifs.size() >= MOST_MOTIFS) {
            throw new IllegalStateException("there are 6 motifs");
        }
        motifs.add(new Motif(width, height, repeat));
        return motifs.size() - 1;
    }

    public int paint(int motif, int x, int y, int width, int height, int colour) throws IndexOutOfBoundsException, IllegalArgumentException {
        Motif painted = motifNumbered(motif);
        refuseNoCell(painted, x, y);
        refuseOutside(width, 1, painted.width);
        refuseOutside(height, 1, painted.height);
        refuseOutside(colour, 0, COLOURS - 1);
        int changed = 0;
        for (int up = 0; up < height; up++) {
            for (int along = 0; along < width; along++) {
                if (painted.recolour((x + along) % painted.width, (y + up) % painted.height, colour)) {
                    changed++;
                }
            }
        }
        return changed;
    }

    public int cell(int motif, int x, int y) throws IndexOutOfBoundsException {
        Motif asked = motifNumbered(motif);
        refuseNoCell(asked, x, y);
        return asked.cellColour(x, y);
    }

    public int colourAt(int motif, int x, int y) throws IndexOutOfBoundsException, IllegalArgumentException {
        Motif asked = motifNumbered(motif);
        refuseOutside(x, -FARTHEST, FARTHEST);
        refuseOutside(y, -FARTHEST, FARTHEST);
        return asked.clothColour(x, y);
    }

    public int period(int motif, boolean isHeight) throws IndexOutOfBoundsException {
        Motif asked = motifNumbered(motif);
        return isHeight ? asked.periodHeight() : asked.periodWidth();
    }

    public int breaks(int motif) throws IndexOutOfBoundsException {
        return motifNumbered(motif).countBreaks();
    }

    public int shapes(int motif) throws IndexOutOfBoundsException {
        cloth.layOut(motifNumbered(motif));
        return cloth.countShapes();
    }

    public int likeness(int motif, int other) throws IndexOutOfBoundsException, UnsupportedOperationException {
        Motif first = motifNumbered(motif);
        Motif second = motifNumbered(other);
        if (first.width != second.width || first.height != second.height) {
            throw new UnsupportedOperationException("the motifs are of unlike sizes");
        }
        int most = 0;
        for (int up = 0; up < first.height; up++) {
            for (int along = 0; along < first.width; along++) {
                most = Math.max(most, first.countLike(second, along, up));
            }
        }
        return most;
    }

    public int ink(int one, int two, int three) throws IllegalArgumentException, IllegalStateException {
        refuseOutside(one, 0, 100);
        refuseOutside(two, 0, 100);
        refuseOutside(three, 0, 100);
        if (inks.size() >= MOST_INKS) {
            throw new IllegalStateException("there are 10 inks");
        }
        inks.add(new Ink(one, two, three));
        return inks.size() - 1;
    }

    public int over(int ink, int other, int lamp) throws IndexOutOfBoundsException {
        Ink upper = inkNumbered(ink);
        Ink lower = inkNumbered(other);
        refuseNoLamp(lamp);
        return upper.lightOver(lower, lamp);
    }

    public int colourway(int motif) throws IndexOutOfBoundsException, IllegalStateException {
        Motif coloured = motifNumbered(motif);
        if (colourways.size() >= MOST_COLOURWAYS) {
            throw new IllegalStateException("there are 8 colourways");
        }
        colourways.add(new Colourway(coloured));
        return colourways.size() - 1;
    }

    public int dye(int colourway, int colour, int ink) throws IndexOutOfBoundsException, IllegalArgumentException {
        Colourway dyed = colourwayNumbered(colourway);
        inkNumbered(ink);
        refuseOutside(colour, 1, COLOURS - 1);
        int before = dyed.inkOf[colour];
        dyed.inkOf[colour] = ink;
        dyed.straighten();
        return before;
    }

    public boolean isWhole(int colourway) throws IndexOutOfBoundsException {
        return colourwayNumbered(colourway).isDyed();
    }

    public int cylinders(int colourway) throws IndexOutOfBoundsException, UnsupportedOperationException {
        return fewestCylinders(colourwayNumbered(colourway));
    }

    public int made(int colourway, int colour) throws IndexOutOfBoundsException, IllegalArgumentException, UnsupportedOperationException {
        Colourway asked = colourwayNumbered(colourway);
        refuseOutside(colour, 1, COLOURS - 1);
        fewestCylinders(asked);
        return mixer.needs[colour];
    }

    public float contrast(int colourway, int lamp) throws IndexOutOfBoundsException, UnsupportedOperationException, ArithmeticException {
        Colourway asked = colourwayNumbered(colourway);
        refuseNoLamp(lamp);
        refuseNotWhole(asked);
        lightColours(asked, lamp);
        cloth.layOut(asked.motif);
        cloth.measureContrast(mixer.lights);
        if (cloth.pairs == 0) {
            throw new ArithmeticException("there are no such pairs");
        }
        return (float) cloth.differences / (float) cloth.pairs;
    }

    public int falseTwins(int colourway) throws IndexOutOfBoundsException, UnsupportedOperationException {
        Colourway asked = colourwayNumbered(colourway);
        refuseNotWhole(asked);
        int used = asked.motif.usedColours();
        int twins = 0;
        for (int first = 1; first < COLOURS; first++) {
            for (int second = first + 1; second < COLOURS; second++) {
                boolean isUsed = (used >> first & used >> second & 1) != 0;
                if (isUsed && inkFor(asked, first).isFalseTwinOf(inkFor(asked, second))) {
                    twins++;
                }
            }
        }
        return twins;
    }

    public int slip(int colourway, int ink, int along, int up) throws IndexOutOfBoundsException, IllegalArgumentException, UnsupportedOperationException {
        Colourway asked = colourwayNumbered(colourway);
        refuseOutside(along, -MOST_SLIP, MOST_SLIP);
        refuseOutside(up, -MOST_SLIP, MOST_SLIP);
        refuseNoCylinder(asked, ink);
        int before = 10 * (asked.along[ink] + MOST_SLIP) + asked.up[ink] + MOST_SLIP;
        asked.along[ink] = along;
        asked.up[ink] = up;
        return before;
    }

    public boolean spread(int colourway, int ink, boolean is) throws IndexOutOfBoundsException, UnsupportedOperationException {
        Colourway asked = colourwayNumbered(colourway);
        refuseNoCylinder(asked, ink);
        boolean before = asked.isSpread[ink];
        asked.isSpread[ink] = is;
        return before;
    }

    public int bare(int colourway) throws IndexOutOfBoundsException, UnsupportedOperationException {
        Colourway asked = colourwayNumbered(colourway);
        printCloth(asked, fewestCylinders(asked), true);
        return cloth.countBare(mixer.needs);
    }

    public int stained(int colourway) throws IndexOutOfBoundsException, UnsupportedOperationException {
        Colourway asked = colourwayNumbered(colourway);
        printCloth(asked, fewestCylinders(asked), true);
        return cloth.countStained(mixer.needs);
    }

    public int roller(int circumference) throws IllegalArgumentException, IllegalStateException {
        refuseOutside(circumference, 2, 200);
        if (rollers.count >= MOST_ROLLERS) {
            throw new IllegalStateException("there are 6 rollers");
        }
        rollers.append(circumference);
        return rollers.count - 1;
    }

    public boolean fits(int motif, int roller) throws IndexOutOfBoundsException {
        Motif asked = motifNumbered(motif);
        if (roller < 0 || roller >= rollers.count) {
            throw new IndexOutOfBoundsException("there is no such roller");
        }
        return rollers.circumferences[roller] % asked.periodHeight() == 0;
    }

    public int streak(int place) throws IllegalArgumentException, IllegalStateException {
        refuseOutside(place, 0, 99999);
        if (rollers.typed > 0 && place <= rollers.streaks[rollers.typed - 1]) {
            throw new IllegalArgumentException("a streak is not greater than the one ahead");
        }
        if (rollers.typed >= MOST_STREAKS) {
            throw new IllegalStateException("there are 10 streaks");
        }
        rollers.type(place);
        return rollers.typed;
    }

    public int wipe() {
        int before = rollers.typed;
        rollers.typed = 0;
        return before;
    }

    public int culprit() throws UnsupportedOperationException, NoSuchElementException {
        if (rollers.typed < 2) {
            throw new UnsupportedOperationException("fewer than two streaks are typed");
        }
        int found = rollers.findCulprit();
        if (found < 0) {
            throw new NoSuchElementException("no roller makes the streaks");
        }
        return found;
    }

    public int licence(int motif, int from, int to) throws IndexOutOfBoundsException, IllegalArgumentException {
        Motif licensed = motifNumbered(motif);
        refuseOutside(from, 0, LAST_DAY);
        if (to < from) {
            throw new IllegalArgumentException("the last day is below the first one");
        }
        int before = licensed.lastDay;
        licensed.firstDay = from;
        licensed.lastDay = to;
        return before;
    }

    public int days(int days) throws IllegalArgumentException, IllegalStateException {
        refuseOutside(days, 1, 99);
        if (day + days > LAST_DAY) {
            throw new IllegalStateException("the day would be above 9999");
        }
        for (int number = 0; number < colourways.size(); number++) {
            colourways.get(number).fade(days);
        }
        day = day + days;
        return day;
    }

    public int web(int colourway, int length, int lot, int shade, int drift) throws IndexOutOfBoundsException, IllegalArgumentException, UnsupportedOperationException, IllegalStateException {
        Colourway printed = colourwayNumbered(colourway);
        refuseOutside(length, 10, 300);
        refuseOutside(lot, 0, MOST_LOT);
        refuseOutside(shade, -9999, 9999);
        refuseOutside(drift, -999, 999);
        refuseNotWhole(printed);
        if (!printed.motif.isLicensed(day)) {
            throw new UnsupportedOperationException("the motif has no licence for the day");
        }
        if (webs.size() >= MOST_WEBS) {
            throw new IllegalStateException("there are 10 webs");
        }
        webs.add(new Web(printed, length, lot, (float) shade / 100f, (float) drift / 1000f));
        return webs.size() - 1;
    }

    public int mark(int web, int place, int points) throws IndexOutOfBoundsException, IllegalArgumentException, UnsupportedOperationException {
        Web marked = webNumbered(web);
        if (place < 0 || place >= marked.points.length) {
            throw new IndexOutOfBoundsException("there is no such place on the web");
        }
        refuseOutside(points, 1, 4);
        refuseCut(marked);
        marked.points[place] += points;
        return marked.points[place];
    }

    public int cut(int web, int length, int most) throws IndexOutOfBoundsException, IllegalArgumentException, UnsupportedOperationException, IllegalStateException {
        Web whole = webNumbered(web);
        refuseOutside(length, 5, 100);
        refuseOutside(most, 0, 20);
        refuseCut(whole);
        int more = whole.findRolls(starts, length, most);
        if (rolls.size() + more > MOST_ROLLS) {
            throw new IllegalStateException("there would be more than 60 rolls");
        }
        whole.isCut = true;
        for (int number = 0; number < more; number++) {
            rolls.add(new Roll(whole, starts[number], length));
        }
        return more;
    }

    public int rolls() {
        return rolls.size();
    }

    public int placeOf(int roll) throws IndexOutOfBoundsException {
        return rollNumbered(roll).place;
    }

    public int lengthOf(int roll) throws IndexOutOfBoundsException {
        return rollNumbered(roll).left;
    }

    public int shadeBits(int roll) throws IndexOutOfBoundsException {
        return bitsOf(rollNumbered(roll).shade);
    }

    public int approve(int colourway, int shade) throws IndexOutOfBoundsException, IllegalArgumentException {
        Colourway approved = colourwayNumbered(colourway);
        refuseOutside(shade, -9999, 9999);
        approved.hasStandard = true;
        approved.standard = (float) shade / 100f;
        int standards = 0;
        for (int number = 0; number < colourways.size(); number++) {
            if (colourways.get(number).hasStandard) {
                standards++;
            }
        }
        return standards;
    }

    public int standardBits(int colourway) throws IndexOutOfBoundsException, NoSuchElementException {
        Colourway asked = colourwayNumbered(colourway);
        refuseNoStandard(asked);
        return bitsOf(asked.standard);
    }

    public boolean matches(int roll) throws IndexOutOfBoundsException, NoSuchElementException {
        Roll asked = rollNumbered(roll);
        refuseNoStandard(asked.web.colourway);
        float apart = asked.shade - asked.web.colourway.standard;
        return (apart < 0f ? -apart : apart) <= 0.5f;
    }

    public int run(int colourway) throws IndexOutOfBoundsException, UnsupportedOperationException, IllegalStateException {
        int set = fewestCylinders(colourwayNumbered(colourway));
        if (queue.count >= MOST_RUNS) {
            throw new IllegalStateException("6 runs wait");
        }
        queue.append(colourway, set);
        return queue.count;
    }

    public int washes() {
        return queue.findBest();
    }

    public int runAt(int place) throws NoSuchElementException {
        if (place < 0 || place >= queue.count) {
            throw new NoSuchElementException("there is no such run");
        }
        queue.findBest();
        return queue.best[place];
    }

    public int start() throws NoSuchElementException {
        if (queue.count == 0) {
            throw new NoSuchElementException("no run waits");
        }
        queue.findBest();
        return queue.takeAway(queue.best[0]);
    }

    public int wall(int width, int height) throws IllegalArgumentException, IllegalStateException {
        refuseOutside(width, 1, MOST_WALL_WIDTH);
        refuseOutside(height, 1, 100);
        if (room.walls >= MOST_WALLS) {
            throw new IllegalStateException("there are 6 walls");
        }
        room.addWall(width, height);
        return room.places;
    }

    public int opening(int from, int to) throws IndexOutOfBoundsException, IllegalArgumentException, UnsupportedOperationException, IllegalStateException {
        if (from < 0 || from >= room.places || to < 0 || to > room.places) {
            throw new IndexOutOfBoundsException("there are no such places");
        }
        if (to <= from) {
            throw new IllegalArgumentException("the second place is not greater");
        }
        if (room.isOpen(from, to)) {
            throw new UnsupportedOperationException("it is over another opening");
        }
        if (room.openings >= MOST_OPENINGS) {
            throw new IllegalStateException("there are 8 openings");
        }
        room.addOpening(from, to);
        return room.openings;
    }

    public int empties() {
        int before = room.walls;
        room.clear();
        return before;
    }

    public int strips(int colourway) throws IndexOutOfBoundsException {
        return room.countStrips(colourwayNumbered(colourway).motif.width);
    }

    public int need(int colourway, int strip) throws IndexOutOfBoundsException {
        Motif hung = colourwayNumbered(colourway).motif;
        if (strip < 0 || strip >= room.countStrips(hung.width)) {
            throw new IndexOutOfBoundsException("there is no such strip");
        }
        return room.highest(strip * hung.width, hung.width);
    }

    public int offset(int colourway, int lot) throws IndexOutOfBoundsException, IllegalArgumentException, UnsupportedOperationException, NoSuchElementException {
        return bestOffset(colourwayNumbered(colourway), lot);
    }

    public int hang(int colourway, int lot) throws IndexOutOfBoundsException, IllegalArgumentException, UnsupportedOperationException, NoSuchElementException {
        Colourway hung = colourwayNumbered(colourway);
        hanging.tryOffset(hung.motif, bestOffset(hung, lot));
        hanging.takeCuts();
        return hanging.begun;
    }

    public double meanRoll() throws ArithmeticException {
        if (rolls.isEmpty()) {
            throw new ArithmeticException("there are no rolls");
        }
        int sum = 0;
        for (int number = 0; number < rolls.size(); number++) {
            sum += rolls.get(number).left;
        }
        return (double) sum / (double) rolls.size();
    }

    public long checksum() {
        long sum = 7L;
        for (int number = 0; number < motifs.size(); number++) {
            int[] cells = motifs.get(number).cells;
            for (int place = 0; place < cells.length; place++) {
                sum = 31L * sum + cells[place];
            }
        }
        for (int number = 0; number < rolls.size(); number++) {
            Roll roll = rolls.get(number);
            sum = 31L * sum + roll.left;
            sum = 31L * sum + bitsOf(roll.shade);
        }
        return sum;
    }

    public boolean isSound() {
        for (int number = 0; number < motifs.size(); number++) {
            if (!motifs.get(number).comesBack()) {
                return false;
            }
        }
        for (int number = 0; number < colourways.size(); number++) {
            if (!printsTrue(colourways.get(number))) {
                return false;
            }
        }
        return rollsLieApart();
    }

    private static void refuseOutside(int number, int least, int most) {
        if (number < least || number > most) {
            throw new IllegalArgumentException("a number is out of range");
        }
    }

    private static void refuseNoCell(Motif motif, int x, int y) {
        if (x < 0 || x >= motif.width || y < 0 || y >= motif.height) {
            throw new IndexOutOfBoundsException("there is no such cell");
        }
    }

    private static void refuseNoLamp(int lamp) {
        if (lamp < 0 || lamp >= LAMPS) {
            throw new IndexOutOfBoundsException("there is no such lamp");
        }
    }

    private static void refuseNotWhole(Colourway colourway) {
        if (!colourway.isDyed()) {
            throw new UnsupportedOperationException("the colourway is not whole");
        }
    }

    private static void refuseCut(Web web) {
        if (web.isCut) {
            throw new UnsupportedOperationException("the web is cut");
        }
    }

    private static void refuseNoStandard(Colourway colourway) {
        if (!colourway.hasStandard) {
            throw new NoSuchElementException("the colourway has no standard");
        }
    }

    private void refuseNoCylinder(Colourway colourway, int ink) {
        int set = fewestCylinders(colourway);
        if (ink < 0 || ink >= inks.size() || (set >> ink & 1) == 0) {
            throw new UnsupportedOperationException("the ink is not among the cylinders");
        }
    }

    private Motif motifNumbered(int number) {
        if (number < 0 || number >= motifs.size()) {
            throw new IndexOutOfBoundsException("there is no such motif");
        }
        return motifs.get(number);
    }

    private Ink inkNumbered(int number) {
        if (number < 0 || number >= inks.size()) {
            throw new IndexOutOfBoundsException("there is no such ink");
        }
        return inks.get(number);
    }

    private Colourway colourwayNumbered(int number) {
        if (number < 0 || number >= colourways.size()) {
            throw new IndexOutOfBoundsException("there is no such colourway");
        }
        return colourways.get(number);
    }

    private Web webNumbered(int number) {
        if (number < 0 || number >= webs.size()) {
            throw new IndexOutOfBoundsException("there is no such web");
        }
        return webs.get(number);
    }

    private Roll rollNumbered(int number) {
        if (number < 0 || number >= rolls.size()) {
            throw new IndexOutOfBoundsException("there is no such roll");
        }
        return rolls.get(number);
    }

    private Ink inkFor(Colourway colourway, int colour) {
        return inkNumbered(colourway.inkOf[colour]);
    }

    /** Leaves in the mixer by which of them each colour is printed. */
    private int fewestCylinders(Colourway colourway) {
        refuseNotWhole(colourway);
        mixer.findMakers(colourway, inks);
        int set = mixer.findFewest(inks.size());
        if (set < 0) {
            throw new UnsupportedOperationException("no set of cylinders makes it");
        }
        mixer.tellNeeds(set);
        return set;
    }

    private void lightColours(Colourway colourway, int lamp) {
        int used = colourway.motif.usedColours();
        for (int colour = 1; colour < COLOURS; colour++) {
            mixer.lights[colour] = (used >> colour & 1) == 0 ? 0 : inkFor(colourway, colour).lightUnder(lamp);
        }
    }

    private void printCloth(Colourway colourway, int set, boolean isSlipped) {
        cloth.layOut(colourway.motif);
        for (int ink = 0; ink < inks.size(); ink++) {
            if ((set >> ink & 1) != 0 && isSlipped) {
                cloth.print(mixer.needs, ink, colourway.along[ink], colourway.up[ink], colourway.isSpread[ink]);
            } else if ((set >> ink & 1) != 0) {
                cloth.print(mixer.needs, ink, 0, 0, false);
            }
        }
    }

    private int bestOffset(Colourway colourway, int lot) {
        refuseOutside(lot, 0, MOST_LOT);
        if (room.walls == 0) {
            throw new UnsupportedOperationException("there are no walls");
        }
        hanging.measure(room, colourway.motif.width);
        hanging.fetchRolls(rolls, colourway, lot);
        int best = hanging.findOffset(colourway.motif);
        if (best < 0) {
            throw new NoSuchElementException("there are not enough rolls by any offset");
        }
        return best;
    }

    private boolean printsTrue(Colourway colourway) {
        if (!colourway.isDyed()) {
            return true;
        }
        int set = fewestCylinders(colourway);
        if (!mixer.makesEach(set) || mixer.makesWithFewer(inks.size(), Integer.bitCount(set))) {
            return false;
        }
        printCloth(colourway, set, false);
        return cloth.countBare(mixer.needs) == 0 && cloth.countStained(mixer.needs) == 0;
    }

    private boolean rollsLieApart() {
        for (int number = 1; number < rolls.size(); number++) {
            Roll roll = rolls.get(number);
            Roll before = rolls.get(number - 1);
            if (roll.web == before.web && roll.place < before.place + before.length) {
                return false;
            }
        }
        return true;
    }

    /**
     * The bits of a float, by arithmetic alone, as the library's own function is not among what LANGUAGE.md leaves. No
     * shade or standard reaches 2 to the power of 24, and none is a zero below 0.
     */
    private static int bitsOf(float value) {
        int sign = value < 0f ? 1 << 31 : 0;
        float size = value < 0f ? -value : value;
        int exponent = 150;
        // At the exponent 1 the floats go over to those without a leading one.
        while (size < 8388608f && exponent > 1) {
            size = size * 2f;
            exponent--;
        }
        int digits = (int) size;
        return digits < 8388608 ? sign | digits : sign | exponent << 23 | digits & 8388607;
    }

    /** A motif with its repeat and its licence. */
    private static final class Motif {
        private final int width;
        private final int height;
        private final char repeat;
        private final int[] cells;
        private int firstDay;
        private int lastDay;

        private Motif(int width, int height, char repeat) {
            this.width = width;
            this.height = height;
            this.repeat = repeat;
            this.cells = new int[width * height];
            this.firstDay = 0;
            this.lastDay = -1;
        }

        private boolean isLicensed(int day) {
            return firstDay <= day && day <= lastDay;
        }

        private int cellColour(int x, int y) {
            return cells[y * width + x];
        }

        private boolean recolour(int x, int y, int colour) {
            boolean isChange = cells[y * width + x] != colour;
            cells[y * width + x] = colour;
            return isChange;
        }

        private int periodWidth() {
            return repeat == 's' ? width : 2 * width;
        }

        private int periodHeight() {
            return repeat == 't' ? 2 * height : height;
        }

        /** By how much the strips of odd numbers begin further on. */
        private int oddStep() {
            if (repeat == 'd') {
                return height / 2;
            }
            return repeat == 't' ? height : 0;
        }

        /** By how much the tiles of a column lie higher. */
        private int rise(int column) {
            return repeat == 'd' && (column & 1) != 0 ? height / 2 : 0;
        }

        private int clothColour(int x, int y) {
            int column = Math.floorDiv(x, width);
            int row = Math.floorDiv(y, height);
            int cellX = Math.floorMod(x, width);
            int cellY = Math.floorMod(y - rise(column), height);
            if (repeat == 't' && (column + row & 1) != 0) {
                return cellColour(width - 1 - cellX, height - 1 - cellY);
            }
            return cellColour(cellX, cellY);
        }

        private int countBreaks() {
            int breaks = 0;
            for (int y = 0; y < periodHeight(); y++) {
                for (int x = 0; x < periodWidth(); x++) {
                    boolean isLastAlong = x % width == width - 1;
                    boolean isLastUp = Math.floorMod(y - rise(x / width), height) == height - 1;
                    int colour = clothColour(x, y);
                    if (isLastAlong && clothColour(x + 1, y) != colour) {
                        breaks++;
                    }
                    if (isLastUp && clothColour(x, y + 1) != colour) {
                        breaks++;
                    }
                }
            }
            return breaks;
        }

        private int countLike(Motif other, int along, int up) {
            int like = 0;
            for (int y = 0; y < height; y++) {
                for (int x = 0; x < width; x++) {
                    if (cellColour((x + along) % width, (y + up) % height) == other.cellColour(x, y)) {
                        like++;
                    }
                }
            }
            return like;
        }

        /** The colours that cells have, as bits, without the ground. */
        private int usedColours() {
            int used = 0;
            for (int place = 0; place < cells.length; place++) {
                used |= 1 << cells[place];
            }
            return used & ~1;
        }

        private boolean comesBack() {
            for (int y = 0; y < periodHeight(); y++) {
                for (int x = 0; x < periodWidth(); x++) {
                    int colour = clothColour(x, y);
                    if (clothColour(x + periodWidth(), y) != colour || clothColour(x, y + periodHeight()) != colour) {
                        return false;
                    }
                }
            }
            return true;
        }
    }

    /** One period of a motif, laid out and taken around; its rows are used again for each one. */
    private static final class Cloth {
        private final int[] colours;
        private final int[] printed;
        private final int[] waiting;
        private int width;
        private int height;
        private int waits;
        private int differences;
        private int pairs;

        private Cloth() {
            this.colours = new int[MOST_PLACES];
            this.printed = new int[MOST_PLACES];
            this.waiting = new int[MOST_PLACES];
            this.width = 1;
            this.height = 1;
        }

        private void layOut(Motif motif) {
            width = motif.periodWidth();
            height = motif.periodHeight();
            for (int y = 0; y < height; y++) {
                for (int x = 0; x < width; x++) {
                    colours[y * width + x] = motif.clothColour(x, y);
                }
            }
            Arrays.fill(printed, 0);
        }

        private int placeAround(int x, int y) {
            return Math.floorMod(y, height) * width + Math.floorMod(x, width);
        }

        private int countShapes() {
            int shapes = 0;
            for (int place = 0; place < width * height; place++) {
                if (colours[place] != 0 && printed[place] == 0) {
                    shapes++;
                    fillShape(place);
                }
            }
            return shapes;
        }

        /** Each place waits once at most, so the row of those that wait is long enough. */
        private void fillShape(int first) {
            int colour = colours[first];
            waits = 0;
            join(first, colour);
            for (int next = 0; next < waits && next < waiting.length; next++) {
                int x = waiting[next] % width;
                int y = waiting[next] / width;
                join(placeAround(x + 1, y), colour);
                join(placeAround(x - 1, y), colour);
                join(placeAround(x, y + 1), colour);
                join(placeAround(x, y - 1), colour);
            }
        }

        private void join(int place, int colour) {
            if (colours[place] == colour && printed[place] == 0 && waits < waiting.length) {
                printed[place] = 1;
                waiting[waits] = place;
                waits++;
            }
        }

        private void measureContrast(int[] lights) {
            differences = 0;
            pairs = 0;
            for (int y = 0; y < height; y++) {
                for (int x = 0; x < width; x++) {
                    int colour = colours[y * width + x];
                    comparePair(lights, colour, colours[placeAround(x + 1, y)]);
                    comparePair(lights, colour, colours[placeAround(x, y + 1)]);
                }
            }
        }

        private void comparePair(int[] lights, int colour, int other) {
            if (colour != other && colour != 0 && other != 0) {
                differences += Math.abs(lights[colour] - lights[other]);
                pairs++;
            }
        }

        private void print(int[] needs, int ink, int along, int up, boolean isSpread) {
            for (int y = 0; y < height; y++) {
                for (int x = 0; x < width; x++) {
                    if ((needs[colours[y * width + x]] >> ink & 1) != 0) {
                        stamp(x + along, y + up, ink, isSpread);
                    }
                }
            }
        }

        private void stamp(int x, int y, int ink, boolean isSpread) {
            printed[placeAround(x, y)] |= 1 << ink;
            if (isSpread) {
                printed[placeAround(x + 1, y)] |= 1 << ink;
                printed[placeAround(x - 1, y)] |= 1 << ink;
                printed[placeAround(x, y + 1)] |= 1 << ink;
                printed[placeAround(x, y - 1)] |= 1 << ink;
            }
        }

        private int countBare(int[] needs) {
            int bare = 0;
            for (int place = 0; place < width * height; place++) {
                if ((needs[colours[place]] & ~printed[place]) != 0) {
                    bare++;
                }
            }
            return bare;
        }

        private int countStained(int[] needs) {
            int stained = 0;
            for (int place = 0; place < width * height; place++) {
                if ((printed[place] & ~needs[colours[place]]) != 0) {
                    stained++;
                }
            }
            return stained;
        }
    }

    /** An ink with its lightness under the three lamps. */
    private static final class Ink {
        private final int one;
        private final int two;
        private final int three;

        private Ink(int one, int two, int three) {
            this.one = one;
            this.two = two;
            this.three = three;
        }

        private int lightUnder(int lamp) {
            if (lamp == 0) {
                return one;
            }
            return lamp == 1 ? two : three;
        }

        private int lightOver(Ink lower, int lamp) {
            return lightUnder(lamp) * lower.lightUnder(lamp) / 100;
        }

        private boolean isMadeBy(Ink upper, Ink lower) {
            return upper.one * lower.one / 100 == one && upper.two * lower.two / 100 == two && upper.three * lower.three / 100 == three;
        }

        private boolean isFalseTwinOf(Ink other) {
            boolean isApart = Math.abs(two - other.two) > 10 || Math.abs(three - other.three) > 10;
            return isApart && Math.abs(one - other.one) <= 2;
        }
    }

    /** A colourway with its inks, the registers of its cylinders and its standard. */
    private static final class Colourway {
        private final Motif motif;
        private final int[] inkOf;
        private final int[] along;
        private final int[] up;
        private final boolean[] isSpread;
        private boolean hasStandard;
        private float standard;

        private Colourway(Motif motif) {
            this.motif = motif;
            this.inkOf = new int[COLOURS];
            this.along = new int[MOST_INKS];
            this.up = new int[MOST_INKS];
            this.isSpread = new boolean[MOST_INKS];
            this.hasStandard = false;
            this.standard = 0f;
            Arrays.fill(this.inkOf, -1);
        }

        private boolean isDyed() {
            int used = motif.usedColours();
            for (int colour = 1; colour < COLOURS; colour++) {
                if ((used >> colour & 1) != 0 && inkOf[colour] < 0) {
                    return false;
                }
            }
            return true;
        }

        private void straighten() {
            for (int ink = 0; ink < MOST_INKS; ink++) {
                along[ink] = 0;
                up[ink] = 0;
                isSpread[ink] = false;
            }
        }

        private void fade(int days) {
            for (int gone = 0; gone < days; gone++) {
                standard = standard * 0.99f;
            }
        }
    }

    /** Finds the fewest cylinders; its rows are used again for each colourway. */
    private static final class Mixer {
        /** An ink by itself, and each pair of ten. */
        private static final int MOST_MAKERS = 46;
        private final int[] makers;
        private final int[] counts;
        private final int[] needs;
        private final int[] lights;

        private Mixer() {
            this.makers = new int[COLOURS * MOST_MAKERS];
            this.counts = new int[COLOURS];
            this.needs = new int[COLOURS];
            this.lights = new int[COLOURS];
        }

        /** For each colour, as bits: its ink, then the pairs that make it, in the order in which they are taken. */
        private void findMakers(Colourway colourway, ArrayList<Ink> inks) {
            int used = colourway.motif.usedColours();
            for (int colour = 1; colour < COLOURS; colour++) {
                counts[colour] = 0;
                int ink = colourway.inkOf[colour];
                if ((used >> colour & 1) != 0 && ink >= 0 && ink < inks.size()) {
                    addMaker(colour, 1 << ink);
                    findPairs(colour, inks.get(ink), inks);
                }
            }
        }

        private void findPairs(int colour, Ink wanted, ArrayList<Ink> inks) {
            for (int first = 0; first < inks.size(); first++) {
                for (int second = first + 1; second < inks.size(); second++) {
                    if (wanted.isMadeBy(inks.get(first), inks.get(second))) {
                        addMaker(colour, 1 << first | 1 << second);
                    }
                }
            }
        }

        private void addMaker(int colour, int bits) {
            if (counts[colour] < MOST_MAKERS) {
                makers[colour * MOST_MAKERS + counts[colour]] = bits;
                counts[colour]++;
            }
        }

        /** The bits by which a set prints a colour, 0 if it does not. */
        private int makerWithin(int set, int colour) {
            for (int number = 0; number < counts[colour]; number++) {
                int bits = makers[colour * MOST_MAKERS + number];
                if ((bits & ~set) == 0) {
                    return bits;
                }
            }
            return 0;
        }

        private boolean makesEach(int set) {
            for (int colour = 1; colour < COLOURS; colour++) {
                if (counts[colour] > 0 && makerWithin(set, colour) == 0) {
                    return false;
                }
            }
            return true;
        }

        private int findFewest(int inks) {
            for (int size = 0; size <= inks; size++) {
                for (int set = 0; set < 1 << inks; set++) {
                    if (Integer.bitCount(set) == size && makesEach(set)) {
                        return set;
                    }
                }
            }
            return -1;
        }

        private boolean makesWithFewer(int inks, int size) {
            for (int set = 0; set < 1 << inks; set++) {
                if (Integer.bitCount(set) < size && makesEach(set)) {
                    return true;
                }
            }
            return false;
        }

        private void tellNeeds(int set) {
            for (int colour = 1; colour < COLOURS; colour++) {
                needs[colour] = makerWithin(set, colour);
            }
        }
    }

    /** The rollers and the streaks that are typed. */
    private static final class Rollers {
        private final int[] circumferences;
        private final int[] streaks;
        private int count;
        private int typed;

        private Rollers() {
            this.circumferences = new int[MOST_ROLLERS];
            this.streaks = new int[MOST_STREAKS];
        }

        private void append(int circumference) {
            circumferences[count] = circumference;
            count++;
        }

        private void type(int place) {
            streaks[typed] = place;
            typed++;
        }

        private int findCulprit() {
            int found = -1;
            int greatest = 0;
            for (int roller = 0; roller < count; roller++) {
                if (circumferences[roller] > greatest && makesStreaks(circumferences[roller])) {
                    found = roller;
                    greatest = circumferences[roller];
                }
            }
            return found;
        }

        private boolean makesStreaks(int circumference) {
            for (int number = 1; number < typed; number++) {
                if ((streaks[number] - streaks[number - 1]) % circumference != 0) {
                    return false;
                }
            }
            return true;
        }
    }

    /** A web with its faults. */
    private static final class Web {
        private final Colourway colourway;
        private final int lot;
        private final float shade;
        private final float drift;
        private final int[] points;
        private boolean isCut;

        private Web(Colourway colourway, int length, int lot, float shade, float drift) {
            this.colourway = colourway;
            this.lot = lot;
            this.shade = shade;
            this.drift = drift;
            this.points = new int[length];
            this.isCut = false;
        }

        /** As all rolls are of one length, to begin each as early as can be makes as many as can be. */
        private int findRolls(int[] starts, int length, int most) {
            int count = 0;
            int free = 0;
            for (int place = 0; place + length <= points.length; place++) {
                if (place >= free && count < starts.length && pointsOf(place, length) <= most) {
                    starts[count] = place;
                    count++;
                    free = place + length;
                }
            }
            return count;
        }

        private int pointsOf(int place, int length) {
            int sum = 0;
            for (int further = 0; further < length; further++) {
                sum += points[place + further];
            }
            return sum;
        }

        private float shadeAt(int place) {
            float sum = shade;
            for (int further = 0; further < place; further++) {
                sum = sum + drift;
            }
            return sum;
        }
    }

    /** A roll, and what is left of it. */
    private static final class Roll {
        private final Web web;
        private final int place;
        private final int length;
        private final float shade;
        private int left;

        private Roll(Web web, int place, int length) {
            this.web = web;
            this.place = place;
            this.length = length;
            this.shade = web.shadeAt(place);
            this.left = length;
        }
    }

    /** The runs that wait. */
    private static final class RunQueue {
        private final int[] colourways;
        private final int[] sets;
        private final int[] order;
        private final int[] best;
        private int count;

        private RunQueue() {
            this.colourways = new int[MOST_RUNS];
            this.sets = new int[MOST_RUNS];
            this.order = new int[MOST_RUNS];
            this.best = new int[MOST_RUNS];
        }

        private void append(int colourway, int set) {
            colourways[count] = colourway;
            sets[count] = set;
            count++;
        }

        private int takeAway(int run) {
            int colourway = colourways[run];
            for (int behind = run + 1; behind < count; behind++) {
                colourways[behind - 1] = colourways[behind];
                sets[behind - 1] = sets[behind];
            }
            count--;
            return colourway;
        }

        /** Goes through all orders, the first by their numbers first, so that of equal ones the first stays the best. */
        private int findBest() {
            for (int place = 0; place < count; place++) {
                order[place] = place;
            }
            int least = 0;
            boolean isMore = true;
            for (int turn = 0; isMore && turn < MOST_ORDERS; turn++) {
                int cost = costOfOrder();
                if (turn == 0 || cost < least) {
                    least = cost;
                    System.arraycopy(order, 0, best, 0, best.length);
                }
                isMore = goToNextOrder();
            }
            return least;
        }

        private int costOfOrder() {
            int cost = 0;
            int before = 0;
            for (int place = 0; place < count; place++) {
                int set = sets[order[place]];
                cost += Integer.bitCount(set ^ before);
                before = set;
            }
            return cost;
        }

        private boolean goToNextOrder() {
            int rise = count - 2;
            while (rise >= 0 && order[rise] > order[rise + 1]) {
                rise--;
            }
            if (rise < 0) {
                return false;
            }
            int greater = count - 1;
            while (greater > rise && order[greater] < order[rise]) {
                greater--;
            }
            swapPlaces(rise, greater);
            for (int low = rise + 1, high = count - 1; low < high; low++, high--) {
                swapPlaces(low, high);
            }
            return true;
        }

        private void swapPlaces(int one, int other) {
            int kept = order[one];
            order[one] = order[other];
            order[other] = kept;
        }
    }

    /** The walls, place by place: how high each one is, 0 in an opening. */
    private static final class Room {
        private final int[] heights;
        private int places;
        private int walls;
        private int openings;

        private Room() {
            this.heights = new int[MOST_WALLS * MOST_WALL_WIDTH];
        }

        private void addWall(int width, int height) {
            int end = Math.min(places + width, heights.length);
            for (int place = places; place < end; place++) {
                heights[place] = height;
            }
            places = end;
            walls++;
        }

        private boolean isOpen(int from, int to) {
            for (int place = from; place < to; place++) {
                if (heights[place] == 0) {
                    return true;
                }
            }
            return false;
        }

        private void addOpening(int from, int to) {
            for (int place = from; place < to; place++) {
                heights[place] = 0;
            }
            openings++;
        }

        private void clear() {
            places = 0;
            walls = 0;
            openings = 0;
        }

        private int countStrips(int width) {
            return (places + width - 1) / width;
        }

        private int highest(int from, int width) {
            int most = 0;
            for (int place = from; place < from + width && place < places; place++) {
                most = Math.max(most, heights[place]);
            }
            return most;
        }
    }

    /** Tries how a room is hung; its rows are used again for each one. */
    private static final class Hanging {
        private final int[] needs;
        private final int[] ends;
        private final ArrayList<Roll> stock;
        private int strips;
        private int begun;

        private Hanging() {
            this.needs = new int[MOST_WALLS * MOST_WALL_WIDTH / LEAST_SIDE];
            this.ends = new int[MOST_ROLLS];
            this.stock = new ArrayList<Roll>();
        }

        private void measure(Room room, int width) {
            strips = Math.min(room.countStrips(width), needs.length);
            for (int strip = 0; strip < strips; strip++) {
                needs[strip] = room.highest(strip * width, width);
            }
        }

        private void fetchRolls(ArrayList<Roll> rolls, Colourway colourway, int lot) {
            stock.clear();
            for (int number = 0; number < rolls.size(); number++) {
                Roll roll = rolls.get(number);
                if (roll.web.colourway == colourway && roll.web.lot == lot && roll.left > 0) {
                    stock.add(roll);
                }
            }
        }

        /** The best offset, -1 if there are not enough rolls by any. */
        private int findOffset(Motif motif) {
            int best = -1;
            int fewest = 0;
            int most = 0;
            for (int offset = 0; offset < motif.periodHeight(); offset++) {
                if (tryOffset(motif, offset)) {
                    int left = countLeft();
                    if (best < 0 || begun < fewest || begun == fewest && left > most) {
                        best = offset;
                        fewest = begun;
                        most = left;
                    }
                }
            }
            return best;
        }

        private boolean tryOffset(Motif motif, int offset) {
            begun = 0;
            for (int strip = 0; strip < strips; strip++) {
                int first = strip % 2 == 0 ? offset : offset + motif.oddStep();
                if (needs[strip] > 0 && !cutStrip(needs[strip], first, motif.periodHeight())) {
                    return false;
                }
            }
            return true;
        }

        private boolean cutStrip(int height, int first, int period) {
            if (begun > 0 && cutFromLast(height, first, period)) {
                return true;
            }
            while (begun < stock.size() && begun < ends.length) {
                ends[begun] = 0;
                begun++;
                if (cutFromLast(height, first, period)) {
                    return true;
                }
            }
            return false;
        }

        private boolean cutFromLast(int height, int first, int period) {
            int last = begun - 1;
            int end = ends[last] + Math.floorMod(first - ends[last], period) + height;
            if (end > stock.get(last).left) {
                return false;
            }
            ends[last] = end;
            return true;
        }

        private int countLeft() {
            int left = 0;
            for (int number = 0; number < begun; number++) {
                left += stock.get(number).left - ends[number];
            }
            return left;
        }

        private void takeCuts() {
            for (int number = 0; number < begun; number++) {
                stock.get(number).left -= ends[number];
            }
        }
    }
}
