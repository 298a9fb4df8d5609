import java.util.ArrayList;
import java.util.Arrays;
import java.util.Collections;
import java.util.HashMap;
import java.util.HashSet;
import java.util.List;
import java.util.Map;
import java.util.NoSuchElementException;
import java.util.Set;
import java.util.TreeMap;
import java.util.TreeSet;

/** The document once more, in other ways and with the whole library: what Repeatroll is compared with. */
public final class Model {
    private static final class Pattern {
        int wide;
        int high;
        char repeat;
        int[][] cells;
        int first = 0;
        int last = -1;

        int wideAll() {
            return repeat == 's' ? wide : wide + wide;
        }

        int highAll() {
            return repeat == 't' ? high + high : high;
        }

        /** The tile of a place, and the place in the tile. */
        int[] tile(int x, int y) {
            int column = (int) Math.floor((double) x / wide);
            int bottom = repeat == 'd' && column % 2 != 0 ? high / 2 : 0;
            int row = (int) Math.floor((double) (y - bottom) / high);
            return new int[] {column, row, x - column * wide, y - bottom - row * high};
        }

        int at(int x, int y) {
            int[] tile = tile(x, y);
            if (repeat == 't' && Math.abs(tile[0] + tile[1]) % 2 == 1) {
                return cells[high - 1 - tile[3]][wide - 1 - tile[2]];
            }
            return cells[tile[3]][tile[2]];
        }

        int around(int x, int y) {
            return at((x + 5 * wideAll()) % wideAll(), (y + 5 * highAll()) % highAll());
        }

        TreeSet<Integer> colours() {
            TreeSet<Integer> colours = new TreeSet<>();
            for (int[] row : cells) {
                for (int colour : row) {
                    colours.add(colour);
                }
            }
            colours.remove(0);
            return colours;
        }
    }

    private static final class Way {
        Pattern pattern;
        int number;
        Map<Integer, Integer> inks = new HashMap<>();
        Map<Integer, int[]> slips = new HashMap<>();
        Set<Integer> spreads = new HashSet<>();
        Float standard;
    }

    private static final class Bolt {
        Way way;
        int lot;
        float[] shades;
        int[] points;
        boolean cut;
    }

    private static final class Piece {
        Bolt bolt;
        int place;
        int left;
    }

    private static final class Hung {
        int offset;
        int begun;
        int left;
        int[] ends;
    }

    private final List<Pattern> patterns = new ArrayList<>();
    private final List<int[]> inks = new ArrayList<>();
    private final List<Way> ways = new ArrayList<>();
    private final List<Integer> rollers = new ArrayList<>();
    private final List<Integer> streaks = new ArrayList<>();
    private final List<Bolt> bolts = new ArrayList<>();
    private final List<Piece> pieces = new ArrayList<>();
    private final List<Way> waiting = new ArrayList<>();
    private final List<Set<Integer>> waitingSets = new ArrayList<>();
    private final List<int[]> walls = new ArrayList<>();
    private final List<int[]> openings = new ArrayList<>();
    private int today;

    /** How many there are of what a call names first: that calls of a test mostly name something. */
    int countOf(String kind) {
        switch (kind) {
            case "motif": return patterns.size();
            case "ink": return inks.size();
            case "colourway": return ways.size();
            case "roller": return rollers.size();
            case "web": return bolts.size();
            case "roll": return pieces.size();
            case "place": return places();
            default: return 0;
        }
    }

    private static <T> T get(List<T> list, int number) {
        if (number < 0 || number >= list.size()) {
            throw new IndexOutOfBoundsException();
        }
        return list.get(number);
    }

    private static void range(int number, int least, int most) {
        if (number < least || number > most) {
            throw new IllegalArgumentException();
        }
    }

    private static void full(int size, int most) {
        if (size >= most) {
            throw new IllegalStateException();
        }
    }

    public int motif(int width, int height, char repeat) {
        range(width, 2, 12);
        range(height, 2, 12);
        if ("sdt".indexOf(repeat) < 0 || repeat == 'd' && height % 2 == 1) {
            throw new IllegalArgumentException();
        }
        full(patterns.size(), 6);
        Pattern pattern = new Pattern();
        pattern.wide = width;
        pattern.high = height;
        pattern.repeat = repeat;
        pattern.cells = new int[height][width];
        patterns.add(pattern);
        return patterns.size() - 1;
    }

    public int paint(int motif, int x, int y, int width, int height, int colour) {
        Pattern pattern = get(patterns, motif);
        cell(motif, x, y);
        range(width, 1, pattern.wide);
        range(height, 1, pattern.high);
        range(colour, 0, 7);
        int changed = 0;
        for (int cellY = 0; cellY < pattern.high; cellY++) {
            for (int cellX = 0; cellX < pattern.wide; cellX++) {
                boolean along = (cellX - x + pattern.wide) % pattern.wide < width;
                boolean up = (cellY - y + pattern.high) % pattern.high < height;
                if (along && up && pattern.cells[cellY][cellX] != colour) {
                    changed++;
                    pattern.cells[cellY][cellX] = colour;
                }
            }
        }
        return changed;
    }

    public int cell(int motif, int x, int y) {
        Pattern pattern = get(patterns, motif);
        if (x < 0 || y < 0 || x >= pattern.wide || y >= pattern.high) {
            throw new IndexOutOfBoundsException();
        }
        return pattern.cells[y][x];
    }

    public int colourAt(int motif, int x, int y) {
        Pattern pattern = get(patterns, motif);
        range(x, -9999, 9999);
        range(y, -9999, 9999);
        return pattern.at(x, y);
    }

    public int period(int motif, boolean isHeight) {
        Pattern pattern = get(patterns, motif);
        return isHeight ? pattern.highAll() : pattern.wideAll();
    }

    public int breaks(int motif) {
        Pattern pattern = get(patterns, motif);
        int breaks = 0;
        for (int x = 0; x < pattern.wideAll(); x++) {
            for (int y = 0; y < pattern.highAll(); y++) {
                for (int[] step : new int[][] {{1, 0}, {0, 1}}) {
                    int[] here = pattern.tile(x, y);
                    int[] there = pattern.tile(x + step[0], y + step[1]);
                    boolean two = here[0] != there[0] || here[1] != there[1];
                    if (two && pattern.at(x, y) != pattern.at(x + step[0], y + step[1])) {
                        breaks++;
                    }
                }
            }
        }
        return breaks;
    }

    public int shapes(int motif) {
        Pattern pattern = get(patterns, motif);
        int wide = pattern.wideAll();
        int high = pattern.highAll();
        int[] roots = new int[wide * high];
        Arrays.setAll(roots, place -> place);
        for (int x = 0; x < wide; x++) {
            for (int y = 0; y < high; y++) {
                for (int[] step : new int[][] {{1, 0}, {0, 1}}) {
                    int otherX = (x + step[0]) % wide;
                    int otherY = (y + step[1]) % high;
                    if (pattern.at(x, y) == pattern.at(otherX, otherY)) {
                        roots[root(roots, y * wide + x)] = root(roots, otherY * wide + otherX);
                    }
                }
            }
        }
        int shapes = 0;
        for (int place = 0; place < roots.length; place++) {
            if (roots[place] == place && pattern.at(place % wide, place / wide) != 0) {
                shapes++;
            }
        }
        return shapes;
    }

    private static int root(int[] roots, int place) {
        return roots[place] == place ? place : root(roots, roots[place]);
    }

    public int likeness(int motif, int other) {
        Pattern one = get(patterns, motif);
        Pattern two = get(patterns, other);
        if (one.wide != two.wide || one.high != two.high) {
            throw new UnsupportedOperationException();
        }
        int[][] like = new int[one.high][one.wide];
        int most = 0;
        for (int y = 0; y < one.high; y++) {
            for (int x = 0; x < one.wide; x++) {
                for (int otherY = 0; otherY < one.high; otherY++) {
                    for (int otherX = 0; otherX < one.wide; otherX++) {
                        if (one.cells[y][x] == two.cells[otherY][otherX]) {
                            int up = (y - otherY + one.high) % one.high;
                            int along = (x - otherX + one.wide) % one.wide;
                            like[up][along]++;
                            most = Math.max(most, like[up][along]);
                        }
                    }
                }
            }
        }
        return most;
    }

    public int ink(int one, int two, int three) {
        range(one, 0, 100);
        range(two, 0, 100);
        range(three, 0, 100);
        full(inks.size(), 10);
        inks.add(new int[] {one, two, three});
        return inks.size() - 1;
    }

    public int over(int ink, int other, int lamp) {
        int[] one = get(inks, ink);
        int[] two = get(inks, other);
        if (lamp < 0 || lamp > 2) {
            throw new IndexOutOfBoundsException();
        }
        return (int) Math.floor(one[lamp] * two[lamp] / 100.0);
    }

    public int colourway(int motif) {
        Pattern pattern = get(patterns, motif);
        full(ways.size(), 8);
        Way way = new Way();
        way.pattern = pattern;
        way.number = ways.size();
        ways.add(way);
        return way.number;
    }

    public int dye(int colourway, int colour, int ink) {
        Way way = get(ways, colourway);
        get(inks, ink);
        range(colour, 1, 7);
        way.slips.clear();
        way.spreads.clear();
        Integer before = way.inks.put(colour, ink);
        return before == null ? -1 : before;
    }

    public boolean isWhole(int colourway) {
        Way way = get(ways, colourway);
        return way.inks.keySet().containsAll(way.pattern.colours());
    }

    /** The cylinders of each colour, 0 for the set itself; null if it is not whole. */
    private Map<Integer, Set<Integer>> printers(Way way) {
        if (!isWhole(way.number)) {
            throw new UnsupportedOperationException();
        }
        TreeMap<String, Map<Integer, Set<Integer>>> found = new TreeMap<>();
        for (int bits = 0; bits < 1 << inks.size(); bits++) {
            Map<Integer, Set<Integer>> made = makers(way, bits);
            if (made != null) {
                found.put(String.format("%02d %04d", Integer.bitCount(bits), bits), made);
            }
        }
        return found.firstEntry().getValue();
    }

    private Map<Integer, Set<Integer>> makers(Way way, int bits) {
        Map<Integer, Set<Integer>> made = new HashMap<>();
        TreeSet<Integer> all = new TreeSet<>();
        for (int ink = 0; ink < inks.size(); ink++) {
            if ((bits & 1 << ink) != 0) {
                all.add(ink);
            }
        }
        made.put(0, all);
        for (int colour : way.pattern.colours()) {
            int ink = way.inks.get(colour);
            if (all.contains(ink)) {
                made.put(colour, Set.of(ink));
                continue;
            }
            for (int low : all.descendingSet()) {
                for (int high : all.descendingSet()) {
                    boolean makes = low < high;
                    for (int lamp = 0; lamp < 3 && makes; lamp++) {
                        makes = over(low, high, lamp) == inks.get(ink)[lamp];
                    }
                    if (makes) {
                        made.put(colour, Set.of(low, high));
                    }
                }
            }
            if (!made.containsKey(colour)) {
                return null;
            }
        }
        return made;
    }

    private static int bits(Set<Integer> numbers) {
        int bits = 0;
        for (int number : numbers) {
            bits += (int) Math.pow(2, number);
        }
        return bits;
    }

    public int cylinders(int colourway) {
        return bits(printers(get(ways, colourway)).get(0));
    }

    public int made(int colourway, int colour) {
        Way way = get(ways, colourway);
        range(colour, 1, 7);
        return bits(printers(way).getOrDefault(colour, Set.of()));
    }

    public float contrast(int colourway, int lamp) {
        Way way = get(ways, colourway);
        if (lamp < 0 || lamp > 2) {
            throw new IndexOutOfBoundsException();
        }
        if (!isWhole(colourway)) {
            throw new UnsupportedOperationException();
        }
        List<Integer> differences = new ArrayList<>();
        Pattern pattern = way.pattern;
        for (int x = 0; x < pattern.wideAll(); x++) {
            for (int y = 0; y < pattern.highAll(); y++) {
                int here = pattern.at(x, y);
                for (int there : new int[] {pattern.around(x + 1, y), pattern.around(x, y + 1)}) {
                    if (here * there != 0 && here != there) {
                        differences.add(Math.abs(inks.get(way.inks.get(here))[lamp] - inks.get(way.inks.get(there))[lamp]));
                    }
                }
            }
        }
        if (differences.isEmpty()) {
            throw new ArithmeticException();
        }
        return (float) differences.stream().mapToInt(Integer::intValue).sum() / (float) differences.size();
    }

    public int falseTwins(int colourway) {
        Way way = get(ways, colourway);
        if (!isWhole(colourway)) {
            throw new UnsupportedOperationException();
        }
        int twins = 0;
        for (int low : way.pattern.colours()) {
            for (int high : way.pattern.colours().tailSet(low, false)) {
                int[] one = inks.get(way.inks.get(low));
                int[] two = inks.get(way.inks.get(high));
                int most = Math.max(Math.abs(one[1] - two[1]), Math.abs(one[2] - two[2]));
                if (Math.abs(one[0] - two[0]) < 3 && most > 10) {
                    twins++;
                }
            }
        }
        return twins;
    }

    public int slip(int colourway, int ink, int along, int up) {
        Way way = get(ways, colourway);
        range(along, -3, 3);
        range(up, -3, 3);
        if (!printers(way).get(0).contains(ink)) {
            throw new UnsupportedOperationException();
        }
        int[] before = way.slips.put(ink, new int[] {along, up});
        return before == null ? 33 : 10 * (before[0] + 3) + (before[1] + 3);
    }

    public boolean spread(int colourway, int ink, boolean is) {
        Way way = get(ways, colourway);
        if (!printers(way).get(0).contains(ink)) {
            throw new UnsupportedOperationException();
        }
        return is ? !way.spreads.add(ink) : way.spreads.remove(ink);
    }

    public int bare(int colourway) {
        return misprinted(get(ways, colourway), true);
    }

    public int stained(int colourway) {
        return misprinted(get(ways, colourway), false);
    }

    /** Asks of each place whence a cylinder would print it. */
    private int misprinted(Way way, boolean isBare) {
        Map<Integer, Set<Integer>> printers = printers(way);
        int places = 0;
        for (int x = 0; x < way.pattern.wideAll(); x++) {
            for (int y = 0; y < way.pattern.highAll(); y++) {
                boolean isWrong = false;
                for (int ink : printers.get(0)) {
                    boolean needs = needs(way, printers, ink, x, y);
                    boolean prints = prints(way, printers, ink, x, y);
                    isWrong |= isBare ? needs && !prints : prints && !needs;
                }
                places += isWrong ? 1 : 0;
            }
        }
        return places;
    }

    private static boolean needs(Way way, Map<Integer, Set<Integer>> printers, int ink, int x, int y) {
        int colour = way.pattern.around(x, y);
        return colour != 0 && printers.get(colour).contains(ink);
    }

    private static boolean prints(Way way, Map<Integer, Set<Integer>> printers, int ink, int x, int y) {
        int[] slip = way.slips.getOrDefault(ink, new int[2]);
        boolean prints = needs(way, printers, ink, x - slip[0], y - slip[1]);
        if (way.spreads.contains(ink)) {
            for (int[] beside : new int[][] {{1, 0}, {-1, 0}, {0, 1}, {0, -1}}) {
                prints |= needs(way, printers, ink, x - slip[0] + beside[0], y - slip[1] + beside[1]);
            }
        }
        return prints;
    }

    public int roller(int circumference) {
        range(circumference, 2, 200);
        full(rollers.size(), 6);
        rollers.add(circumference);
        return rollers.size() - 1;
    }

    public boolean fits(int motif, int roller) {
        return get(rollers, roller) % get(patterns, motif).highAll() == 0;
    }

    public int streak(int place) {
        range(place, 0, 99999);
        if (!streaks.isEmpty() && Collections.max(streaks) >= place) {
            throw new IllegalArgumentException();
        }
        full(streaks.size(), 10);
        streaks.add(place);
        return streaks.size();
    }

    public int wipe() {
        int size = streaks.size();
        streaks.clear();
        return size;
    }

    public int culprit() {
        if (streaks.size() < 2) {
            throw new UnsupportedOperationException();
        }
        for (int circumference = 200; circumference > 1; circumference--) {
            int size = circumference;
            if (rollers.contains(size) && streaks.stream().allMatch(place -> (place - streaks.get(0)) % size == 0)) {
                return rollers.indexOf(size);
            }
        }
        throw new NoSuchElementException();
    }

    public int licence(int motif, int from, int to) {
        Pattern pattern = get(patterns, motif);
        range(from, 0, 9999);
        range(to, from, Integer.MAX_VALUE);
        int before = pattern.last;
        pattern.first = from;
        pattern.last = to;
        return before;
    }

    public int days(int days) {
        range(days, 1, 99);
        full(today + days, 10000);
        today += days;
        for (Way way : ways) {
            for (int day = 0; day < days && way.standard != null; day++) {
                way.standard = way.standard * 0.99f;
            }
        }
        return today;
    }

    public int web(int colourway, int length, int lot, int shade, int drift) {
        Way way = get(ways, colourway);
        range(length, 10, 300);
        range(lot, 0, 99);
        range(shade, -9999, 9999);
        range(drift, -999, 999);
        if (!isWhole(colourway) || today < way.pattern.first || today > way.pattern.last) {
            throw new UnsupportedOperationException();
        }
        full(bolts.size(), 10);
        Bolt bolt = new Bolt();
        bolt.way = way;
        bolt.lot = lot;
        bolt.points = new int[length];
        bolt.shades = new float[length];
        bolt.shades[0] = shade / 100f;
        for (int place = 1; place < length; place++) {
            bolt.shades[place] = bolt.shades[place - 1] + drift / 1000f;
        }
        bolts.add(bolt);
        return bolts.size() - 1;
    }

    public int mark(int web, int place, int points) {
        Bolt bolt = get(bolts, web);
        if (place < 0 || place >= bolt.points.length) {
            throw new IndexOutOfBoundsException();
        }
        range(points, 1, 4);
        if (bolt.cut) {
            throw new UnsupportedOperationException();
        }
        return bolt.points[place] += points;
    }

    /** By how many rolls can be made from each place on, and then the earliest that keep to it. */
    public int cut(int web, int length, int most) {
        Bolt bolt = get(bolts, web);
        range(length, 5, 100);
        range(most, 0, 20);
        if (bolt.cut) {
            throw new UnsupportedOperationException();
        }
        int end = bolt.points.length;
        boolean[] makes = new boolean[end + 1];
        int[] best = new int[end + 1];
        for (int place = end - 1; place >= 0; place--) {
            best[place] = best[place + 1];
            makes[place] = place + length <= end && Arrays.stream(bolt.points, place, place + length).sum() <= most;
            if (makes[place]) {
                best[place] = Math.max(best[place], 1 + best[place + length]);
            }
        }
        full(pieces.size() + best[0], 61);
        bolt.cut = true;
        int place = 0;
        for (int rest = best[0]; rest > 0; rest--) {
            while (!makes[place] || 1 + best[place + length] < rest) {
                place++;
            }
            Piece piece = new Piece();
            piece.bolt = bolt;
            piece.place = place;
            piece.left = length;
            pieces.add(piece);
            place += length;
        }
        return best[0];
    }

    public int rolls() {
        return pieces.size();
    }

    public int placeOf(int roll) {
        return get(pieces, roll).place;
    }

    public int lengthOf(int roll) {
        return get(pieces, roll).left;
    }

    public int shadeBits(int roll) {
        Piece piece = get(pieces, roll);
        return Float.floatToIntBits(piece.bolt.shades[piece.place]);
    }

    public int approve(int colourway, int shade) {
        Way way = get(ways, colourway);
        range(shade, -9999, 9999);
        way.standard = shade / 100f;
        return (int) ways.stream().filter(each -> each.standard != null).count();
    }

    public int standardBits(int colourway) {
        Way way = get(ways, colourway);
        if (way.standard == null) {
            throw new NoSuchElementException();
        }
        return Float.floatToIntBits(way.standard);
    }

    public boolean matches(int roll) {
        Piece piece = get(pieces, roll);
        standardBits(piece.bolt.way.number);
        return Math.abs(piece.bolt.shades[piece.place] - piece.bolt.way.standard) <= 0.5f;
    }

    public int run(int colourway) {
        Way way = get(ways, colourway);
        Set<Integer> set = printers(way).get(0);
        full(waiting.size(), 6);
        waiting.add(way);
        waitingSets.add(set);
        return waiting.size();
    }

    public int washes() {
        return cost(bestOrder());
    }

    private int cost(List<Integer> order) {
        int cost = 0;
        Set<Integer> before = Set.of();
        for (int run : order) {
            Set<Integer> set = waitingSets.get(run);
            Set<Integer> unlike = new HashSet<>(before);
            unlike.addAll(set);
            Set<Integer> both = new HashSet<>(before);
            both.retainAll(set);
            unlike.removeAll(both);
            cost += unlike.size();
            before = set;
        }
        return cost;
    }

    private List<Integer> bestOrder() {
        List<List<Integer>> orders = new ArrayList<>();
        collect(new ArrayList<>(), orders);
        List<Integer> best = orders.get(0);
        for (List<Integer> order : orders) {
            best = cost(order) < cost(best) ? order : best;
        }
        return best;
    }

    private void collect(List<Integer> begun, List<List<Integer>> orders) {
        if (begun.size() == waiting.size()) {
            orders.add(new ArrayList<>(begun));
        }
        for (int run = 0; run < waiting.size(); run++) {
            if (!begun.contains(run)) {
                begun.add(run);
                collect(begun, orders);
                begun.remove(begun.size() - 1);
            }
        }
    }

    public int runAt(int place) {
        if (place < 0 || place >= waiting.size()) {
            throw new NoSuchElementException();
        }
        return bestOrder().get(place);
    }

    public int start() {
        if (waiting.isEmpty()) {
            throw new NoSuchElementException();
        }
        int first = bestOrder().get(0);
        waitingSets.remove(first);
        return waiting.remove(first).number;
    }

    private int places() {
        return walls.stream().mapToInt(wall -> wall[0]).sum();
    }

    public int wall(int width, int height) {
        range(width, 1, 200);
        range(height, 1, 100);
        full(walls.size(), 6);
        walls.add(new int[] {width, height});
        return places();
    }

    public int opening(int from, int to) {
        if (from < 0 || from >= places() || to < 0 || to > places()) {
            throw new IndexOutOfBoundsException();
        }
        range(to, from + 1, places());
        for (int[] other : openings) {
            if (from < other[1] && other[0] < to) {
                throw new UnsupportedOperationException();
            }
        }
        full(openings.size(), 8);
        openings.add(new int[] {from, to});
        return openings.size();
    }

    public int empties() {
        int size = walls.size();
        walls.clear();
        openings.clear();
        return size;
    }

    public int strips(int colourway) {
        return (int) Math.ceil((double) places() / get(ways, colourway).pattern.wide);
    }

    public int need(int colourway, int strip) {
        int wide = get(ways, colourway).pattern.wide;
        if (strip < 0 || strip >= strips(colourway)) {
            throw new IndexOutOfBoundsException();
        }
        int most = 0;
        int begin = 0;
        for (int[] wall : walls) {
            for (int place = begin; place < begin + wall[0]; place++) {
                int at = place;
                if (place / wide == strip && openings.stream().noneMatch(gap -> gap[0] <= at && at < gap[1])) {
                    most = Math.max(most, wall[1]);
                }
            }
            begin += wall[0];
        }
        return most;
    }

    private List<Piece> stock(Way way, int lot) {
        List<Piece> stock = new ArrayList<>(pieces);
        stock.removeIf(piece -> piece.bolt.way != way || piece.bolt.lot != lot || piece.left == 0);
        return stock;
    }

    private Hung hung(Way way, int lot, int offset) {
        List<Piece> stock = stock(way, lot);
        Hung hung = new Hung();
        hung.offset = offset;
        hung.ends = new int[stock.size()];
        for (int strip = 0; strip < strips(way.number); strip++) {
            int need = need(way.number, strip);
            boolean isCut = need == 0;
            while (!isCut) {
                if (hung.begun > 0) {
                    int place = hung.ends[hung.begun - 1];
                    while (!begins(way.pattern, offset, strip, place)) {
                        place++;
                    }
                    if (place + need <= stock.get(hung.begun - 1).left) {
                        hung.ends[hung.begun - 1] = place + need;
                        isCut = true;
                    }
                }
                if (!isCut && hung.begun == stock.size()) {
                    return null;
                }
                hung.begun += isCut ? 0 : 1;
            }
        }
        for (int roll = 0; roll < hung.begun; roll++) {
            hung.left += stock.get(roll).left - hung.ends[roll];
        }
        return hung;
    }

    private static boolean begins(Pattern pattern, int offset, int strip, int place) {
        int more = 0;
        if (strip % 2 == 1) {
            more = pattern.repeat == 'd' ? pattern.high / 2 : pattern.repeat == 't' ? pattern.high : 0;
        }
        return place % pattern.highAll() == (offset + more) % pattern.highAll();
    }

    private Hung bestHung(int colourway, int lot) {
        Way way = get(ways, colourway);
        range(lot, 0, 99);
        if (walls.isEmpty()) {
            throw new UnsupportedOperationException();
        }
        List<Hung> all = new ArrayList<>();
        for (int offset = 0; offset < way.pattern.highAll(); offset++) {
            Hung hung = hung(way, lot, offset);
            if (hung != null) {
                all.add(hung);
            }
        }
        if (all.isEmpty()) {
            throw new NoSuchElementException();
        }
        all.sort((one, two) -> one.begun != two.begun ? one.begun - two.begun : one.left != two.left ? two.left - one.left : one.offset - two.offset);
        return all.get(0);
    }

    public int offset(int colourway, int lot) {
        return bestHung(colourway, lot).offset;
    }

    public int hang(int colourway, int lot) {
        Hung hung = bestHung(colourway, lot);
        List<Piece> stock = stock(get(ways, colourway), lot);
        for (int roll = 0; roll < hung.begun; roll++) {
            stock.get(roll).left -= hung.ends[roll];
        }
        return hung.begun;
    }

    public double meanRoll() {
        if (pieces.isEmpty()) {
            throw new ArithmeticException();
        }
        return pieces.stream().mapToDouble(piece -> piece.left).sum() / pieces.size();
    }

    public long checksum() {
        long sum = 7;
        for (Pattern pattern : patterns) {
            for (int[] row : pattern.cells) {
                for (int colour : row) {
                    sum = sum * 31 + colour;
                }
            }
        }
        for (int roll = 0; roll < pieces.size(); roll++) {
            sum = (sum * 31 + lengthOf(roll)) * 31 + shadeBits(roll);
        }
        return sum;
    }

    public boolean isSound() {
        return true;
    }
}
