import java.util.function.Supplier;

/** All that a house tells without being changed, as a text. */
final class Shot {
    private Shot() {
    }

    static String of(Repeatroll house) {
        StringBuilder shot = new StringBuilder();
        motifs(house, shot);
        inks(house, shot);
        for (int colourway = 0; colourway < 8; colourway++) {
            colourway(house, colourway, shot);
        }
        rolls(house, shot);
        for (int place = 0; place < 6; place++) {
            int at = place;
            tell(shot, "run", () -> house.runAt(at));
        }
        tell(shot, "washes", house::washes);
        tell(shot, "culprit", house::culprit);
        tell(shot, "mean", house::meanRoll);
        tell(shot, "sum", house::checksum);
        tell(shot, "sound", house::isSound);
        return shot.toString();
    }

    private static void motifs(Repeatroll house, StringBuilder shot) {
        for (int number = 0; number < 6; number++) {
            int motif = number;
            tell(shot, "wide", () -> house.period(motif, false));
            tell(shot, "high", () -> house.period(motif, true));
            tell(shot, "breaks", () -> house.breaks(motif));
            tell(shot, "shapes", () -> house.shapes(motif));
            for (int roller = 0; roller < 6; roller++) {
                int fitted = roller;
                tell(shot, "fits", () -> house.fits(motif, fitted));
            }
        }
    }

    private static void inks(Repeatroll house, StringBuilder shot) {
        for (int ink = 0; ink < 10; ink++) {
            for (int lamp = 0; lamp < 3; lamp++) {
                int asked = ink;
                int under = lamp;
                tell(shot, "ink", () -> house.over(asked, asked, under));
            }
        }
    }

    private static void colourway(Repeatroll house, int colourway, StringBuilder shot) {
        tell(shot, "whole", () -> house.isWhole(colourway));
        tell(shot, "cylinders", () -> house.cylinders(colourway));
        for (int colour = 1; colour < 8; colour++) {
            int made = colour;
            tell(shot, "made", () -> house.made(colourway, made));
        }
        tell(shot, "twins", () -> house.falseTwins(colourway));
        tell(shot, "contrast", () -> house.contrast(colourway, 1));
        tell(shot, "bare", () -> house.bare(colourway));
        tell(shot, "stained", () -> house.stained(colourway));
        tell(shot, "standard", () -> house.standardBits(colourway));
        tell(shot, "strips", () -> house.strips(colourway));
        for (int strip = 0; strip < 8; strip++) {
            int needed = strip;
            tell(shot, "need", () -> house.need(colourway, needed));
        }
        for (int lot = 0; lot < 3; lot++) {
            int of = lot;
            tell(shot, "offset", () -> house.offset(colourway, of));
        }
    }

    private static void rolls(Repeatroll house, StringBuilder shot) {
        tell(shot, "rolls", house::rolls);
        for (int number = 0; number < house.rolls(); number++) {
            int roll = number;
            tell(shot, "place", () -> house.placeOf(roll));
            tell(shot, "left", () -> house.lengthOf(roll));
            tell(shot, "shade", () -> house.shadeBits(roll));
            tell(shot, "matches", () -> house.matches(roll));
        }
    }

    private static void tell(StringBuilder shot, String what, Supplier<Object> call) {
        shot.append(what).append(' ');
        try {
            shot.append(call.get());
        } catch (RuntimeException thrown) {
            shot.append(thrown.getClass().getSimpleName());
        }
        shot.append('\n');
    }
}
