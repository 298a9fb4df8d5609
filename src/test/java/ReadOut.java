import java.util.List;

/** What a house tells of all that it holds; most questions change it, so each is put to a house of its own. */
final class ReadOut {
    static final List<List<Call>> QUESTIONS = List.of(
        Call.all(motifs()), Call.all(inks()), Call.all(registers()), Call.all(dyes()), Call.all(webs()),
        Call.all(rolls()), Call.all(runs()), Call.all(rollers()), Call.all(room()), Call.all(licensedDays()));

    private ReadOut() {
    }

    private static String each(int count, String calls) {
        StringBuilder all = new StringBuilder();
        for (int number = 0; number < count; number++) {
            all.append(calls.replace("#", String.valueOf(number))).append(';');
        }
        return all.toString();
    }

    private static String motifs() {
        return "checksum(); rolls();"
            + each(6, "period(#, false); period(#, true); breaks(#); shapes(#); likeness(#, 0); colourAt(#, -5, 7); licence(#, 0, 0)")
            + "motif(2, 2, 's'); isSound()";
    }

    private static String inks() {
        return each(10, "over(#, #, 0); over(#, #, 1); over(#, #, 2)")
            + each(8, "isWhole(#); cylinders(#); falseTwins(#); contrast(#, 0); contrast(#, 1); bare(#); stained(#); standardBits(#)")
            + each(8, "made(#, 1); made(#, 2); made(#, 3); made(#, 7)") + "ink(1, 1, 1); colourway(0)";
    }

    private static String registers() {
        return each(10, "slip(0, #, 0, 0); slip(1, #, 0, 0); slip(2, #, 0, 0)")
            + each(10, "spread(0, #, false); spread(1, #, false); spread(2, #, false)");
    }

    private static String dyes() {
        return "ink(0, 0, 0);" + each(8, "dye(#, 1, 0); dye(#, 2, 0); dye(#, 3, 0); dye(#, 4, 0); dye(#, 5, 0); dye(#, 6, 0); dye(#, 7, 0)");
    }

    private static String webs() {
        return each(10, "mark(#, 0, 1); mark(#, 5, 1); mark(#, 9, 1); mark(#, 10, 1); mark(#, 19, 1); cut(#, 5, 2)")
            + each(8, "web(#, 10, 0, 0, 0)") + "rolls(); checksum()";
    }

    private static String rolls() {
        return each(60, "placeOf(#); lengthOf(#); shadeBits(#); matches(#)") + "rolls(); meanRoll()";
    }

    private static String runs() {
        return each(6, "runAt(#)") + each(7, "washes(); start()");
    }

    private static String rollers() {
        return each(6, "fits(0, #); fits(1, #); fits(2, #)") + "culprit(); streak(99999); wipe(); roller(2)";
    }

    private static String room() {
        return each(8, "strips(#); need(#, 0); need(#, 1); need(#, 2); need(#, 9)") + each(8, "offset(#, 0); offset(#, 5); hang(#, 0); hang(#, 5)")
            + "checksum(); opening(0, 1); opening(3, 4); wall(1, 1); opening(0, 1); empties()";
    }

    private static String licensedDays() {
        return each(3, "web(0, 10, 0, 0, 0); web(1, 10, 0, 0, 0); days(1)") + "standardBits(0); standardBits(1)";
    }
}
