import java.io.IOException;
import java.nio.file.Files;
import java.nio.file.Path;
import java.util.function.ToLongFunction;

/**
 * What the tests of boundary cases share. Each of them names the sentence of the document that it
 * is for, in the document's own words, and what a refused call leaves is seen by later calls.
 */
final class Edge {
    static final int MAX = Integer.MAX_VALUE;
    static final int MIN = Integer.MIN_VALUE;
    static final String FOAM = "foam f 0:0 5:5 keeps 9 price 9;";
    static final String THING = "thing c weighs 1 size 1 1 1 mark 1;";
    static final String BOX = "box b room 1 1 1 price 1 bears 1;";

    private static final Path DOCUMENT = Path.of("../shared/DOC.md");
    private static final int LIVED_DAY = 5;
    private static final String LIVED = "foam f 0:100 95:100 keeps 0 price 7;"
            + "thing c weighs 1 size 10 20 30 mark 60000;pad c side 0 f thick 10 area 1;"
            + "drop c side 0 from 1 times 3;box a room 100 100 100 price 9 bears 500;"
            + "box b room 100 100 100 price 4 bears 500;";
    // From 940 it HOLDS, from 941 it does not: three of seven shares, then one of three.
    private static final int[] LIVED_TAPE = {0, 0, 0, 3, 172, 3, 173, 1, 2, 4,
        0, 3, 173, 3, 173, 0, 0, 1, 1, 1};

    private final Due due;
    private final String document;
    private String sentence = "";

    Edge(String test) throws IOException {
        due = new Due(test);
        document = document();
    }

    /** Null: it is not there. */
    static String document() throws IOException {
        return Files.isReadable(DOCUMENT) ? flat(Files.readString(DOCUMENT)) : null;
    }

    static String flat(String text) {
        return text.replaceAll("\\s+", " ");
    }

    /** Begins the tests of a sentence of the document. */
    void of(String words) {
        sentence = words;
        if (document != null) {
            due.is("the document says " + words, document.contains(flat(words)), true);
        }
    }

    void is(String call, long got, long want) {
        due.is(call + " [" + sentence + "]", got, want);
    }

    void is(String call, boolean got, boolean want) {
        due.is(call + " [" + sentence + "]", got, want);
    }

    void close() {
        due.close();
    }

    // ---- texts

    /** Without FAULT, of so many LINES. */
    void good(String text, int lines) {
        FoamArms x = Due.with(BOX);
        is("book of " + text, Due.book(x, text), lines);
        is("its fault", x.fault(), 0);
        is("it is told", x.count(1), 2);
        is("the tape is empty", x.count(2), 0);
    }

    /** With a FAULT: the BOOK ahead of it stays the last one. */
    void bad(String text, int place, int kind) {
        FoamArms x = Due.with(BOX);
        is("book of " + text, Due.book(x, text), -1 - place);
        is("the fault of " + text, x.fault(), kind);
        is("none is told", x.count(1), 1);
        is("none is told", x.many(0, MAX) + x.many(1, MAX) + x.many(3, MAX), 0);
        is("the one ahead stays", x.many(2, MAX), 1);
        is("the tape is empty", x.count(2), 0);
    }

    /** The FAULT is at the first '|', which is no part of the text. */
    void badAt(String marked, int kind) {
        int place = marked.indexOf('|');
        bad(marked.substring(0, place) + marked.substring(place + 1), place, kind);
    }

    // ---- refused calls

    /** An object on day 5 whose every answer of earlier calls is another one than a new one's. */
    static FoamArms lived() {
        FoamArms x = new FoamArms();
        x.next(LIVED_DAY);
        if (Due.book(x, LIVED) != 6 || Due.book(x, FOAM + "foam f") != -37) {
            throw new IllegalStateException("fault " + x.fault());
        }
        Due.tape(x, 0, 2, 0, 1);
        if (x.breaks(0, LIVED_DAY) != 0 || x.pads(0, 0, 50, 1, LIVED_DAY) != 18
                || x.boxes(0, 8, LIVED_DAY) != 4) {
            throw new IllegalStateException("it has not lived as it should");
        }
        Due.tape(x, LIVED_TAPE);
        return x;
    }

    /** All that later calls can see, the tape's bytes by a JOURNEY too, which uses them. */
    static String state(FoamArms x) {
        StringBuilder s = new StringBuilder();
        for (int i = 0; i < 3; i++) {
            s.append(x.count(i)).append(' ');
        }
        s.append(x.fault()).append(' ').append(x.breaksAt()).append(' ').append(x.boxSet());
        for (int side = 0; side < 6; side++) {
            s.append(' ').append(x.padAt(side));
        }
        for (int kind = 0; kind < 4; kind++) {
            s.append(' ').append(x.many(kind, MAX)).append(' ').append(x.many(kind, LIVED_DAY - 1));
        }
        s.append(' ').append(x.blow(0, 0, 940, 100, MAX)).append(' ').append(x.highest(0, 0, MAX));
        return s.append(' ').append(Due.journey(x, 0, MAX)).toString();
    }

    /** The call answers so, and leaves all as it was. */
    void refused(String call, ToLongFunction<FoamArms> asked, long want) {
        FoamArms x = lived();
        is(call, asked.applyAsLong(x), want);
        same(call, state(x), state(lived()));
    }

    /** The call uses the tape: it answers so, and leaves all but the tape, which is empty then. */
    void refusedOf(int[] tape, String call, ToLongFunction<FoamArms> asked, long want) {
        FoamArms x = lived();
        x.end(0);
        Due.tape(x, tape);
        is(call, asked.applyAsLong(x), want);
        FoamArms emptied = lived();
        emptied.end(0);
        same(call, state(x), state(emptied));
    }

    private void same(String call, String got, String want) {
        is(call + " left " + got + ", due is " + want, got.equals(want), true);
    }
}
