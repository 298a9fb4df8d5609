import java.util.ArrayList;
import java.util.HashSet;
import java.util.List;
import java.util.Set;

/**
 * Tests by the words of the document: each quotes words of one sentence and shows by calls that they hold. A sentence
 * under the book's headings that no test quotes is a fault of the book.
 */
final class Book {
    static final String NONE_SUCH = "IndexOutOfBoundsException";
    static final String WRONG = "IllegalArgumentException";
    static final String FULL = "IllegalStateException";
    static final String UNFIT = "UnsupportedOperationException";
    static final String MISSING = "NoSuchElementException";
    static final String NO_MEAN = "ArithmeticException";
    /** The document says nothing about what comes later. */
    private static final int MOST_CALLS = 512;

    private final Document document = new Document();
    private final Check check;
    private final List<String> headings = new ArrayList<>();
    private final Set<String> shown = new HashSet<>();

    Book(String name) {
        this.check = new Check(name);
    }

    /** The tests that follow quote what stands under this heading. */
    void open(String heading) {
        if (!Document.IS_LEFT_OUT) {
            check.due("there is a heading " + heading, document.headings().contains(heading), true);
        }
        headings.add(heading);
    }

    /** The calls of the script on a new house answer what is due; those without a due answer do not throw. */
    void holds(String words, String... scripts) {
        quote(words);
        List<Call> calls = Call.all(String.join(";", scripts));
        Repeatroll house = new Repeatroll();
        check.due(at(words, "calls, at most"), calls.size() <= MOST_CALLS, true);
        int asked = 0;
        for (int number = 0; number < calls.size(); number++) {
            Call call = calls.get(number);
            String got = call.onWatched(house);
            if (call.due() != null) {
                check.due(at(words, "call " + number + ", " + call), got, call.due());
                asked++;
            } else {
                check.due(at(words, "call " + number + ", " + call + " throws"), got.startsWith("throws."), false);
            }
            if (call.isRefused()) {
                changesNothing(words, calls.subList(0, number), call);
            }
        }
        check.due(at(words, "some answer is due"), asked > 0, true);
    }

    /** The document itself says of these words that they promise nothing. */
    void leavesFree(String words) {
        quote(words);
    }

    /** Each of the calls, made alone after the setup, throws. */
    void refuses(String exception, String words, String setup, String calls) {
        for (Call call : Call.all(calls)) {
            holds(words, setup, call + " = throws." + exception);
        }
    }

    /** Two houses that were built by the same calls tell the same, though one of them has refused one more. */
    private void changesNothing(String words, List<Call> before, Call refused) {
        for (List<Call> question : ReadOut.QUESTIONS) {
            Repeatroll house = replay(before);
            Repeatroll other = replay(before);
            refused.on(house);
            int room = Math.min(question.size(), MOST_CALLS - before.size() - 1);
            String unlike = "";
            for (Call call : question.subList(0, room)) {
                String got = call.on(house);
                String want = call.on(other);
                unlike = unlike.isEmpty() && !got.equals(want) ? call + " answers " + got + ", not " + want : unlike;
            }
            check.due(at(words, "what is unlike after " + refused), unlike, "");
        }
    }

    Document document() {
        return document;
    }

    private static Repeatroll replay(List<Call> calls) {
        Repeatroll house = new Repeatroll();
        for (Call call : calls) {
            if (!call.isRefused()) {
                call.on(house);
            }
        }
        return house;
    }

    private void quote(String words) {
        boolean isFound = false;
        for (String sentence : document.sentencesUnder(headings.get(headings.size() - 1))) {
            if (sentence.contains(words)) {
                shown.add(headings.get(headings.size() - 1) + sentence);
                isFound = true;
            }
        }
        if (!Document.IS_LEFT_OUT) {
            check.due(at(words, "the words are the document's"), isFound, true);
        }
    }

    private String at(String words, String what) {
        return headings.get(headings.size() - 1) + ", \"" + words + "\": " + what;
    }

    void end() {
        for (String heading : headings) {
            for (String sentence : document.sentencesUnder(heading)) {
                check.due(heading + ", a test quotes \"" + sentence + "\"", shown.contains(heading + sentence), true);
            }
        }
        check.end();
    }
}
