import java.io.IOException;
import java.util.Arrays;
import java.util.Collections;
import java.util.List;

/** Boundary cases of the terms' first part: BOOKS, TOKENS, the language, Bounds, FAULTS. */
final class TermsEdgesTest {
    private static final String RESERVED = "foam thing box pad drop keeps price weighs size mark "
            + "room bears side thick area from times";
    private static final String HEAD = Edge.FOAM + Edge.THING;
    private static final String PAD = "pad c side 0 f thick 10 area 1;";
    private static final String DROP = "drop c side 0 from 1;";
    private static Edge edge;

    public static void main(String[] args) throws IOException {
        edge = new Edge("TermsEdgesTest");
        lastDay();
        bytesAndBooks();
        asOf();
        blanks();
        wordsAndNumbers();
        goesOn();
        linesOfText();
        foamLine();
        thingLine();
        boxLine();
        padLine();
        dropLine();
        newNames();
        toldNames();
        points();
        boundsOfFoams();
        boundsOfThings();
        boundsOfBoxes();
        sides();
        boundsOfPads();
        boundsOfDrops();
        numbered();
        eightAtMost();
        twentyDrops();
        onePadASide();
        eightPoints();
        firstAndLeast();
        noToken();
        theEnd();
        sixHundred();
        wrongNumbers();
        wrongNames();
        tooMany();
        edge.close();
    }

    private static String spaces(int n) {
        char[] row = new char[n];
        Arrays.fill(row, ' ');
        return new String(row);
    }

    private static String times(int n, String text) {
        return String.join("", Collections.nCopies(n, text));
    }

    /** So many LINES alike, with NAMES of their own. */
    private static String named(int n, String line, String name) {
        return named(n, line, name, 'k');
    }

    private static String named(int n, String line, String name, char first) {
        StringBuilder text = new StringBuilder();
        for (int i = 0; i < n; i++) {
            text.append(line.replaceFirst(" " + name + " ", " " + (char) (first + i) + " "));
        }
        return text.toString();
    }

    // ---- days and BOOKS

    private static void lastDay() {
        edge.of("TODAY is day 0 at first, 999 the last one.");
        FoamArms x = new FoamArms();
        edge.is("TODAY at first", x.count(0), 0);
        Due.book(x, Edge.BOX);
        edge.is("told on day 0", x.many(2, 0), 1);
        edge.is("not the day ahead", x.many(2, -1), 0);
        edge.is("next(999)", x.next(999), 999);
        edge.is("behind the last one", x.next(1), -1);
        edge.is("TODAY stays", x.count(0), 999);
        Due.book(x, Edge.BOX + Edge.THING);
        edge.is("told on day 999", x.many(1, 999), 1);
        edge.is("not on 998", x.many(1, 998), 0);
    }

    private static void bytesAndBooks() {
        edge.of("A BOOK is a text of at most 600 bytes, told on TODAY; 20 at most;");
        edge.good(spaces(600 - Edge.THING.length()) + Edge.THING, 1);
        edge.bad(spaces(601 - Edge.THING.length()) + Edge.THING, 600, 1);
        edge.good(Edge.THING + spaces(599 - Edge.THING.length()), 1);
        edge.bad(Edge.THING + spaces(601 - Edge.THING.length()), 600, 1);
        edge.bad(Edge.THING + spaces(640 - Edge.THING.length()), 600, 1);
        FoamArms x = new FoamArms();
        x.next(7);
        Due.book(x, Edge.THING);
        x.next(1);
        edge.is("the day ahead", x.many(1, 6), 0);
        edge.is("on its day", x.many(1, 7), 1);
        edge.is("the day behind", x.many(1, 8), 1);
        for (int i = 2; i <= 20; i++) {
            edge.is("BOOK " + i, Due.book(x, i == 20 ? Edge.BOX : ""), i == 20 ? 1 : 0);
            edge.is("BOOKS", x.count(1), i);
        }
        edge.is("the 21st", Due.book(x, Edge.FOAM), -1000);
        edge.is("BOOKS stay", x.count(1), 20);
        edge.is("the 20th is the last one", x.many(2, 8), 1);
        edge.is("the 21st is not told", x.many(0, 8), 0);
    }

    private static void asOf() {
        edge.of("AS OF a day t it is the last one told on t or ahead (without any: the empty text).");
        FoamArms x = new FoamArms();
        x.next(10);
        Due.book(x, named(1, Edge.BOX, "b"));
        Due.book(x, named(2, Edge.BOX, "b"));
        x.next(2);
        Due.book(x, named(3, Edge.BOX, "b"));
        int[][] due = {{Edge.MIN, 0}, {-1, 0}, {0, 0}, {9, 0}, {10, 2}, {11, 2}, {12, 3}, {13, 3},
            {999, 3}, {1000, 3}, {Edge.MAX, 3}};
        for (int[] d : due) {
            edge.is("BOXES AS OF " + d[0], x.many(2, d[0]), d[1]);
        }
        for (int kind = 0; kind < 4; kind++) {
            edge.is("the empty text's kind " + kind, x.many(kind, 9), 0);
        }
        x.next(1);
        Due.book(x, "");
        edge.is("an empty BOOK is one, too", x.many(2, 13), 0);
        edge.is("it hides none ahead", x.many(2, 12), 3);
    }

    // ---- TOKENS

    private static void blanks() {
        edge.of("TOKENS, with blanks (32, 10) between them or not:");
        String rest = "b room 1 1 1 price 1 bears 1;";
        for (int sign = 0; sign < 256; sign++) {
            boolean runs = sign >= 'a' && sign <= 'z' || sign >= '0' && sign <= '9';
            if (sign == 32 || sign == 10) {
                edge.good("box" + (char) sign + rest, 1);
            } else {
                edge.bad("box" + (char) sign + rest, runs ? 0 : 3, 1);
            }
        }
        edge.good("foam f 0:0 5:5 keeps 9 price 9;thing c weighs 1 size 1 1 1 mark 1;", 2);
        edge.good("\n foam\n\nf  0 : 0\n5 :\n5 keeps 9 price 9 ;\n \n", 1);
        edge.good(" ", 0);
        edge.good("\n", 0);
    }

    private static void wordsAndNumbers() {
        edge.of("WORDS: small letters, 1 to 8; NUMBERS: 1 to 5 digits; ; and :");
        String box = " room 1 1 1 price 1 bears 1;";
        for (int n = 1; n <= 8; n++) {
            edge.good("box " + times(n, "a") + box, 1);
            edge.good("box " + times(n, "z") + box, 1);
        }
        edge.badAt("box |" + times(9, "a") + box, 1);
        edge.badAt("box |" + times(9, "z") + box, 1);
        for (char sign : new char[] {'a' - 1, 'z' + 1, 'A', 'Z', '@', '[', (char) 225, (char) 255}) {
            edge.badAt("box |" + sign + box, 1);
        }
        for (int n = 1; n <= 5; n++) {
            edge.good("box b room 1 1 1 price " + times(n, "0") + " bears 1;", 1);
            edge.good("box b room 1 1 1 price 1 bears " + times(n - 1, "0") + "9;", 1);
        }
        edge.badAt("box b room 1 1 1 price |000000 bears 1;", 1);
        edge.badAt("box b room 1 1 1 price 1 bears |000009;", 1);
        edge.badAt("box b room 1 1 1 price 1 bears |" + (char) ('0' - 1), 1);
        for (char sign : new char[] {':' - 1, ';' + 1, '-', '+', '.', ','}) {
            if (sign != '9') {
                edge.badAt("box b room 1 1 1 price 1 bears 1|" + sign, 1);
            }
        }
        FoamArms x = Due.with("foam f 0:0 5:00012 keeps 9 price 9;");
        edge.is("a NUMBER with zeros ahead", x.push(0, 5, 100, 0), 12);
    }

    private static void goesOn() {
        edge.of("(A WORD, NUMBER goes on as long as small letters and digits do; "
                + "what is not as told is no TOKEN.)");
        edge.badAt("box |b1 room", 1);
        edge.badAt("box |1b room", 1);
        edge.badAt("box |abcdefg1 room", 1);
        edge.badAt("|box1 b room", 1);
        edge.badAt("|1box b room", 1);
        edge.badAt("|boxb room", 1);
        edge.badAt("box b room |1x1 1", 1);
        edge.badAt("box b room 1 1 1 price |1bears 1;", 1);
        edge.badAt("box b room |11111a 1", 1);
        edge.badAt("box b|B room", 1);
        edge.badAt("box b room 1|_ 1 1", 1);
        edge.badAt("box b room |-1 1 1", 1);
        edge.good("box b room 1 1 1 price 1 bears 1;box bb room 1 1 1 price 1 bears 1;", 2);
    }

    // ---- LINES

    private static void linesOfText() {
        edge.of("TEXT: { LINE ; }.");
        edge.good("", 0);
        edge.good(Edge.BOX, 1);
        edge.good(Edge.BOX + Edge.THING, 2);
        edge.badAt("|;", 1);
        edge.badAt(Edge.BOX + "|;", 1);
        edge.badAt(Edge.BOX.replace(";", "|"), 1);
        edge.badAt(Edge.BOX.replace(";", " |thing c weighs 1"), 1);
        edge.badAt("|keeps", 1);
        edge.badAt("|f", 1);
        edge.badAt("|1", 1);
    }

    /** Each TOKEN of a LINE left out, put twice, and with the end or no TOKEN instead of it. */
    private static void lineIs(String line) {
        List<String> parts = Arrays.asList(line.split(" "));
        edge.good(HEAD + line, 3);
        for (int i = 0; i < parts.size(); i++) {
            String ahead = HEAD + String.join(" ", parts.subList(0, i)) + " ";
            if (i > 0) {
                edge.bad(ahead, ahead.length(), 1);
            }
            String behind = " " + String.join(" ", parts.subList(i + 1, parts.size()));
            for (String none : new String[] {"?", "000001", "abcdefghi", "a1", "1a"}) {
                edge.badAt(ahead + "|" + none + behind, 1);
            }
            if (i + 1 == parts.size()) {
                continue;
            }
            // Behind a NUMBER left out the next one takes its place, behind 'keeps' a percent's.
            int wrong = parts.get(i).equals("keeps") ? i + 2 : i + 1;
            while (isNumber(parts.get(i)) && isNumber(parts.get(wrong))) {
                wrong++;
            }
            String taken = wrong > i + 1 ? String.join(" ", parts.subList(i + 1, wrong)) + " " : "";
            edge.badAt(ahead + taken + "|" + String.join(" ", parts.subList(wrong, parts.size())), 1);
            boolean more = isNumber(parts.get(i)) && isNumber(parts.get(i + 1));
            if (!more && !parts.get(i + 1).equals("keeps")) {
                edge.badAt(ahead + parts.get(i) + " |" + parts.get(i) + " "
                        + String.join(" ", parts.subList(i + 1, parts.size())), 1);
            }
        }
    }

    private static boolean isNumber(String part) {
        return Character.isDigit(part.charAt(0));
    }

    private static void foamLine() {
        edge.of("LINE: 'foam' NAME POINT POINT { POINT } 'keeps' NUMBER 'price' NUMBER");
        lineIs("foam x 0 : 0 5 : 5 keeps 9 price 9 ;");
        lineIs("foam x 0 : 0 5 : 5 6 : 6 keeps 9 price 9 ;");
        edge.badAt("foam x |keeps 9 price 9;", 1);
        edge.badAt("foam x 0:0 |keeps 9 price 9;", 1);
        edge.badAt("foam x 0:0 5:5 |price 9;", 1);
        edge.badAt("foam x 0:0 5:5 keeps 9|;", 1);
        edge.badAt("foam x 0:0 5:5 |price 9 keeps 9;", 1);
        edge.good("foam x 0:0 1:0 keeps 9 price 9;", 1);
        edge.good("foam x 0:0 1:0 2:0 keeps 9 price 9;", 1);
    }

    private static void thingLine() {
        edge.of("| 'thing' NAME 'weighs' NUMBER 'size' NUMBER NUMBER NUMBER 'mark' NUMBER");
        lineIs("thing x weighs 1 size 1 1 1 mark 1 ;");
        edge.badAt("thing x weighs 1 size 1 1 |mark 1;", 1);
        edge.badAt("thing x |size 1 1 1 mark 1;", 1);
        edge.badAt("thing x weighs 1 |mark 1;", 1);
        edge.badAt("thing x weighs 1 size 1 1 1|;", 1);
        edge.badAt("thing x weighs 1 |mark 1 size 1 1 1;", 1);
        edge.badAt("thing x weighs 1 size 1 1 1 |1 mark 1;", 1);
    }

    private static void boxLine() {
        edge.of("| 'box' NAME 'room' NUMBER NUMBER NUMBER 'price' NUMBER 'bears' NUMBER");
        lineIs("box x room 1 1 1 price 1 bears 1 ;");
        edge.badAt("box x room 1 1 |price 1 bears 1;", 1);
        edge.badAt("box x |price 1 bears 1;", 1);
        edge.badAt("box x room 1 1 1 |bears 1;", 1);
        edge.badAt("box x room 1 1 1 price 1|;", 1);
        edge.badAt("box x room 1 1 1 |bears 1 price 1;", 1);
        edge.badAt("box x room 1 1 1 |1 price 1 bears 1;", 1);
    }

    private static void padLine() {
        edge.of("| 'pad' THING 'side' NUMBER FOAM 'thick' NUMBER 'area' NUMBER");
        lineIs("pad c side 0 f thick 10 area 1 ;");
        edge.badAt(HEAD + "pad |side 0 f thick 10 area 1;", 1);
        edge.badAt(HEAD + "pad c |f thick 10 area 1;", 1);
        edge.badAt(HEAD + "pad c side 0 f |area 1;", 1);
        edge.badAt(HEAD + "pad c side 0 f thick 10|;", 1);
        edge.badAt(HEAD + "pad c side 0 f |area 1 thick 10;", 1);
    }

    private static void dropLine() {
        edge.of("| 'drop' THING 'side' NUMBER 'from' NUMBER [ 'times' NUMBER ].");
        lineIs("drop c side 0 from 1 times 2 ;");
        lineIs("drop c side 0 from 1 ;");
        edge.badAt(HEAD + "drop c side 0 from 1 times 2 |times 2;", 1);
        edge.badAt(HEAD + "drop c side 0 from 1 |2;", 1);
        edge.badAt(HEAD + "drop c side 0 |times 2;", 1);
        edge.badAt(HEAD + "drop c |from 1;", 1);
        edge.badAt(HEAD + "drop c |times 2 side 0 from 1;", 1);
    }

    private static void newNames() {
        edge.of("NAME: a WORD, none of foam, thing, box, pad, drop, keeps, price, weighs, size, mark, "
                + "room, bears, side, thick, area, from, times; told once in all.");
        for (String word : RESERVED.split(" ")) {
            edge.badAt("foam |" + word + " 0:0 5:5 keeps 9 price 9;", 1);
            edge.badAt("thing |" + word + " weighs 1 size 1 1 1 mark 1;", 1);
            edge.badAt("box |" + word + " room 1 1 1 price 1 bears 1;", 1);
            String rest = " room 1 1 1 price 1 bears 1;";
            edge.good("box " + word.substring(1) + rest, 1);
            edge.good("box " + word.substring(0, word.length() - 1) + rest, 1);
            edge.good("box " + word + "s" + rest, 1);
        }
        String[] told = {"foam n 0:0 5:5 keeps 9 price 9;", "thing n weighs 1 size 1 1 1 mark 1;",
            "box n room 1 1 1 price 1 bears 1;"};
        for (String first : told) {
            for (String second : told) {
                edge.badAt(first + second.replace(" n ", " |n "), 3);
                edge.good(first + second.replace(" n ", " nn "), 2);
            }
        }
        FoamArms x = Due.with(told[0]);
        edge.is("once more in another BOOK", Due.book(x, told[1]), 1);
    }

    private static void toldNames() {
        edge.of("THING, FOAM: a NAME told ahead of one.");
        edge.good(HEAD + PAD + DROP, 4);
        edge.good(Edge.THING + Edge.FOAM + DROP + PAD, 4);
        edge.badAt(Edge.FOAM + "pad |c side 0 f thick 10 area 1;" + Edge.THING, 3);
        edge.badAt(Edge.THING + "pad c side 0 |f thick 10 area 1;" + Edge.FOAM, 3);
        edge.badAt("drop |c side 0 from 1;" + Edge.THING, 3);
        String head = HEAD + Edge.BOX;
        for (String name : new String[] {"f", "b", "q", "cc"}) {
            edge.badAt(head + "pad |" + name + " side 0 f thick 10 area 1;", 3);
            edge.badAt(head + "drop |" + name + " side 0 from 1;", 3);
        }
        for (String name : new String[] {"c", "b", "q", "ff"}) {
            edge.badAt(head + "pad c side 0 |" + name + " thick 10 area 1;", 3);
        }
        FoamArms x = Due.with(HEAD);
        edge.is("told in another BOOK alone", Due.book(x, DROP), -6);
        edge.is("is not told", x.fault(), 3);
    }

    // ---- Bounds

    /** The least and the greatest are told, one less and one more are FAULT 2 at the NUMBER. */
    private static void bound(String ahead, String behind, int least, int most) {
        edge.is(ahead + least, Due.book(new FoamArms(), ahead + least + behind) > 0, true);
        edge.is(ahead + most, Due.book(new FoamArms(), ahead + most + behind) > 0, true);
        if (least > 0) {
            edge.bad(ahead + (least - 1) + behind, ahead.length(), 2);
            edge.bad(ahead + 0 + behind, ahead.length(), 2);
        }
        edge.bad(ahead + (most + 1) + behind, ahead.length(), 2);
        edge.bad(ahead + 99999 + behind, ahead.length(), 2);
    }

    private static void points() {
        edge.of("POINT: NUMBER : NUMBER (percents 0 to 95, the first 0, each greater than the one ahead; "
                + "pushes 0 to 60000 grams a square centimetre, none less than the one ahead).");
        String end = " keeps 1 price 1;";
        bound("foam f ", ":0 5:5" + end, 0, 0);
        bound("foam f 0:0 ", ":0" + end, 1, 95);
        bound("foam f 0:0 93:0 ", ":0" + end, 94, 95);
        bound("foam f 0:0 94:0 ", ":0" + end, 95, 95);
        edge.badAt("foam f 0:0 95:0 |95:0" + end, 2);
        edge.badAt("foam f 0:0 95:0 |96:0" + end, 2);
        bound("foam f 0:", " 5:60000" + end, 0, 60000);
        bound("foam f 0:0 5:", end, 0, 60000);
        bound("foam f 0:8 5:", end, 8, 60000);
        bound("foam f 0:8 5:9 6:", end, 9, 60000);
        bound("foam f 0:60000 5:", end, 60000, 60000);
        edge.badAt("foam f 0 |0", 1);
        edge.badAt("foam f 0|;", 1);
    }

    private static void boundsOfFoams() {
        edge.of("Bounds: keeps 0 to 100;");
        bound("foam f 0:0 5:5 keeps ", " price 1;", 0, 100);
        edge.of("a FOAM's price 0 to 100, a BOX's 0 to 10000;");
        bound("foam f 0:0 5:5 keeps 1 price ", ";", 0, 100);
        bound("box b room 1 1 1 price ", " bears 1;", 0, 10000);
    }

    private static void boundsOfThings() {
        edge.of("weighs 1 to 60000 (grams);");
        bound("thing c weighs ", " size 1 1 1 mark 1;", 1, 60000);
        edge.of("sizes, room 1 to 9999 (tenths of a millimetre);");
        bound("thing c weighs 1 size ", " 1 1 mark 1;", 1, 9999);
        bound("thing c weighs 1 size 1 ", " 1 mark 1;", 1, 9999);
        bound("thing c weighs 1 size 1 1 ", " mark 1;", 1, 9999);
        bound("box b room ", " 1 1 price 1 bears 1;", 1, 9999);
        bound("box b room 1 ", " 1 price 1 bears 1;", 1, 9999);
        bound("box b room 1 1 ", " price 1 bears 1;", 1, 9999);
        edge.of("mark 1 to 60000 (tenths of the own weight);");
        bound("thing c weighs 1 size 1 1 1 mark ", ";", 1, 60000);
        // A BLOW of 10 tenths is the own weight: 50 grams on an area of 2 are 100 grams' push.
        FoamArms x = Due.with("foam f 0:50 9:50 keeps 1 price 1;"
                + "thing c weighs 100 size 1 1 1 mark 10;pad c side 0 f thick 10 area 2;");
        edge.is("the own weight in tenths", x.blow(0, 0, 0, 100, 0), 10);
        edge.is("is let by a mark of 10", x.highest(0, 0, 0), 0);
    }

    private static void boundsOfBoxes() {
        edge.of("bears 1 to 60000 (grams);");
        bound("box b room 1 1 1 price 1 bears ", ";", 1, 60000);
    }

    private static void sides() {
        edge.of("side 0 to 5 (0, 1 across the first size; 2, 3 the second; 4, 5 the third);");
        bound(HEAD + "pad c side ", " f thick 10 area 1;", 0, 5);
        bound(HEAD + "drop c side ", " from 1;", 0, 5);
        // One size of each BOX has room for the thin dear KIND alone.
        String[] rooms = {"30 60 70", "50 40 70", "50 60 50"};
        for (int size = 0; size < 3; size++) {
            FoamArms x = Due.with("foam dear 0:100 95:100 keeps 1 price 9;"
                    + "foam cheap 0:100 95:100 keeps 1 price 1;"
                    + "thing c weighs 1000 size 10 20 30 mark 60000;"
                    + "box b room " + rooms[size] + " price 1 bears 1;");
            Due.tape(x, 0, 1, 1, 2);
            edge.is("pads for " + rooms[size], x.pads(0, 0, 1000, 0, 0), 2 * 90 + 4 * 20);
            for (int side = 0; side < 6; side++) {
                edge.is("padAt(" + side + ")", x.padAt(side), side / 2 == size ? 0 : 1);
            }
        }
    }

    private static void boundsOfPads() {
        edge.of("thick 10 to 600 (tenths of a millimetre);");
        bound(HEAD + "pad c side 0 f thick ", " area 1;", 10, 600);
        edge.of("area 1 to 2000 (square centimetres);");
        bound(HEAD + "pad c side 0 f thick 10 area ", ";", 1, 2000);
    }

    private static void boundsOfDrops() {
        edge.of("from 0 to 30000 (tenths of a millimetre);");
        bound(HEAD + "drop c side 0 from ", ";", 0, 30000);
        bound(HEAD + "drop c side 0 from ", " times 1;", 0, 30000);
        edge.of("times 1 to 20 (1 without it).");
        bound(HEAD + "drop c side 0 from 0 times ", ";", 1, 20);
        // The foam keeps nothing: the second fall from 1 breaks.
        String once = "foam f 0:100 95:100 keeps 0 price 1;thing c weighs 1 size 1 1 1 mark 60000;"
                + PAD;
        brokenAt(once + DROP, -1, -1);
        brokenAt(once + "drop c side 0 from 1 times 1;", -1, -1);
        brokenAt(once + DROP + DROP, 1, 1);
        brokenAt(once + "drop c side 0 from 1 times 2;", 0, 2);
        // KEPT is one less behind each fall, 81 at the 20th, which HOLDS from 9.5 times 80.
        String slow = once.replace("keeps 0", "keeps 99");
        brokenAt(slow + "drop c side 0 from 760 times 20;", -1, -1);
        brokenAt(slow + "drop c side 0 from 761 times 20;", 0, 20);
        brokenAt(slow + "drop c side 0 from 761 times 19;", -1, -1);
    }

    private static void brokenAt(String text, int line, int time) {
        FoamArms x = Due.with(text);
        edge.is("breaks by " + text, x.breaks(0, 0), line);
        edge.is("breaksAt by " + text, x.breaksAt(), time);
    }

    // ---- how many

    private static void numbered() {
        edge.of("Numbered as told, from 0 on:");
        FoamArms x = Due.with("foam z 0:1 5:1 keeps 9 price 9;box q room 1 1 1 price 1 bears 100;"
                + "foam a 0:2 5:2 keeps 9 price 9;thing y weighs 10 size 1 1 1 mark 9;"
                + "box p room 1 1 1 price 1 bears 200;thing b weighs 20 size 1 1 1 mark 9;"
                + "pad b side 0 a thick 10 area 10;drop b side 0 from 30000;");
        edge.is("FOAM 0", x.push(0, 0, 100, 0), 1);
        edge.is("FOAM 1", x.push(1, 0, 100, 0), 2);
        edge.is("FOAM 2", x.push(2, 0, 100, 0), -1);
        edge.is("FOAM -1", x.push(-1, 0, 100, 0), -1);
        edge.is("THING 0", x.squeeze(0, 0, 0, 100, 0), -2);
        edge.is("THING 1", x.squeeze(1, 0, 0, 100, 0), 0);
        edge.is("THING 2", x.squeeze(2, 0, 0, 100, 0), -1);
        edge.is("DROP 0", x.breaks(1, 0), 0);
        for (int box = 0; box < 2; box++) {
            Due.tape(x, 100);
            edge.is("BOX " + box, x.stack(box, 2, 150, 0), box == 0 ? 0 : -1);
        }
        Due.tape(x, 100);
        edge.is("BOX 2", x.stack(2, 2, 150, 0), -2);
    }

    private static void eightAtMost() {
        edge.of("FOAMS, THINGS, BOXES (8 at most each),");
        String[] lines = {Edge.FOAM, Edge.THING, Edge.BOX};
        String[] names = {"f", "c", "b"};
        for (int kind = 0; kind < 3; kind++) {
            for (int n = 7; n <= 8; n++) {
                String text = named(n, lines[kind], names[kind]);
                edge.good(text, n);
                edge.is("many of " + text, Due.with(text).many(kind, 0), n);
            }
            String eight = named(8, lines[kind], names[kind]);
            edge.badAt(eight + "|" + lines[kind], 4);
            String other = lines[(kind + 1) % 3];
            edge.good(eight + other, 9);
        }
        // 18 NAMES, the most that go into 600 bytes.
        String most = named(8, Edge.FOAM, "f") + named(8, Edge.THING, "c", 'a')
                + named(1, Edge.BOX, "b", 'i');
        edge.good(most + named(1, Edge.BOX, "b", 'j'), 18);
        edge.badAt(most + "box |h", 3);
        edge.badAt(most + "box |i", 3);
        FoamArms x = Due.with(named(8, Edge.FOAM, "f"));
        edge.is("the eighth FOAM", x.push(7, 5, 100, 0), 5);
        edge.is("no ninth one", x.push(8, 5, 100, 0), -1);
        x = Due.with(named(8, Edge.THING, "c"));
        edge.is("the eighth THING", x.breaks(7, 0), -1);
        edge.is("no ninth one", x.breaks(8, 0), -2);
        x = Due.with(named(8, Edge.BOX, "b"));
        Due.tape(x, 100);
        edge.is("the eighth BOX", x.stack(7, 2, 2, 0), 0);
        Due.tape(x, 100);
        edge.is("no ninth one", x.stack(8, 2, 2, 0), -2);
    }

    private static void twentyDrops() {
        edge.of("DROPS (20 LINES);");
        String sure = "thing c weighs 1 size 1 1 1 mark 1;foam f 0:0 5:5 keeps 9 price 9;" + PAD;
        String zero = "drop c side 0 from 0;";
        edge.good(sure + times(19, zero), 22);
        edge.good(sure + times(20, zero), 23);
        edge.badAt(sure + times(20, zero) + "|drop", 4);
        edge.is("20 DROPS", Due.with(sure + times(20, zero)).many(3, 0), 20);
        FoamArms x = Due.with(sure + times(19, zero) + "drop c side 1 from 0;");
        edge.is("the 20th LINE", x.breaks(0, 0), 19);
        edge.good(sure + times(19, zero) + "drop c side 0 from 0 times 20;", 23);
    }

    private static void onePadASide() {
        edge.of("a THING has one PAD a side.");
        StringBuilder six = new StringBuilder(HEAD);
        for (int side = 0; side < 6; side++) {
            six.append(PAD.replace("side 0", "side " + side));
        }
        edge.good(six.toString(), 8);
        for (int side = 0; side < 6; side++) {
            edge.badAt(six + "pad c side |" + side + " f thick 10 area 1;", 4);
        }
        edge.good(HEAD + PAD + Edge.THING.replace(" c ", " d ") + PAD.replace(" c ", " d "), 5);
        FoamArms x = Due.with(HEAD + PAD);
        edge.is("a PAD in another BOOK", Due.book(x, HEAD + PAD), 3);
    }

    private static void eightPoints() {
        edge.of("8 POINTS at most.");
        String seven = "foam f 0:0 1:1 2:2 3:3 4:4 5:5 6:6 ";
        edge.good(seven + "keeps 1 price 1;", 1);
        edge.good(seven + "95:7 keeps 1 price 1;", 1);
        edge.badAt(seven + "7:7 |8:8 keeps 1 price 1;", 4);
        FoamArms x = Due.with(seven + "95:7 keeps 1 price 1;");
        edge.is("the seventh", x.push(0, 6, 100, 0), 6);
        edge.is("between the last two", x.push(0, 94, 100, 0), 6);
        edge.is("the eighth", x.push(0, 95, 100, 0), 7);
        edge.is("behind it", x.push(0, 96, 100, 0), -1);
    }

    // ---- FAULTS

    private static void firstAndLeast() {
        edge.of("FAULTS, the first along the text, of one TOKEN the least:");
        edge.badAt("thing c weighs |0 size 0 1 1 mark ?;", 2);
        edge.badAt("foam f 0:0 5:5 keeps 9 price |?;foam f", 1);
        edge.badAt(Edge.FOAM + "foam |f 1:0", 3);
        edge.badAt(HEAD + PAD + "pad c side |0 q", 4);
        edge.badAt(named(8, Edge.FOAM, "f") + "|foam k 1:0 ?", 4);
        String eight = "foam f 0:0 1:1 2:2 3:3 4:4 5:5 6:6 7:7 ";
        edge.badAt(eight + "|7:7", 2);
        edge.badAt(eight + "|96:7", 2);
        edge.badAt(eight + "|8:6", 4);
        edge.badAt(eight + "|000008:8", 1);
        edge.badAt("thing c weighs |999999 size", 1);
        edge.badAt("pad |side side 0", 1);
        edge.badAt(HEAD + PAD + "pad c side |6", 2);
    }

    private static void noToken() {
        edge.of("1 no TOKEN, or one that can't come (at it;");
        edge.badAt("|?", 1);
        edge.badAt("  \n|?", 1);
        edge.badAt("foam |? 0:0", 1);
        edge.badAt("foam |; 0:0", 1);
        edge.badAt("foam |: 0:0", 1);
        edge.badAt("foam |7 0:0", 1);
        edge.badAt("foam f |g 0:0", 1);
        edge.badAt("foam f |:0", 1);
        edge.badAt("thing c weighs |one", 1);
        edge.badAt("thing c weighs 1|: size", 1);
        edge.badAt("thing c |size 1 1 1", 1);
        edge.badAt(HEAD + PAD.replace(";", "|:"), 1);
    }

    private static void theEnd() {
        edge.of("the end: how many bytes there are;");
        edge.bad("foam", 4, 1);
        edge.bad("foam ", 5, 1);
        edge.bad("foam f\n\n ", 9, 1);
        edge.bad("foam f 0:0 5:5 keeps 9 price 9", 30, 1);
        edge.bad(spaces(595) + "foam", 599, 1);
        edge.bad(spaces(596) + "foam", 600, 1);
        edge.bad("foam" + spaces(596), 600, 1);
    }

    private static void sixHundred() {
        edge.of("600, if there are more and no FAULT is ahead: TOKENS that begin ahead of it are read "
                + "whole);");
        edge.bad(spaces(601), 600, 1);
        edge.bad(spaces(640), 600, 1);
        edge.bad("foam" + spaces(597), 600, 1);
        edge.bad(spaces(599) + "?" + " ", 599, 1);
        edge.bad(spaces(600) + "?", 600, 1);
        edge.bad(spaces(599) + "foam", 600, 1);
        edge.bad(spaces(599) + "foan", 599, 1);
        edge.bad(spaces(600) + "foan", 600, 1);
        edge.bad(spaces(594) + "foam abcdefgh", 600, 1);
        edge.bad(spaces(594) + "foam abcdefghi", 599, 1);
        edge.bad(spaces(595) + "foam abcdefghi", 600, 1);
        edge.bad(spaces(594) + "foam thing", 599, 1);
        edge.bad(spaces(594) + "foam thin", 600, 1);
        String ahead = "thing c weighs ";
        edge.bad(spaces(599 - ahead.length()) + ahead + "60000 ?", 600, 1);
        edge.bad(spaces(599 - ahead.length()) + ahead + "60001", 599, 2);
        edge.bad(spaces(599 - ahead.length()) + ahead + "00000", 599, 2);
        edge.bad(spaces(599 - ahead.length()) + ahead + "000001", 599, 1);
        edge.bad(spaces(600 - ahead.length()) + ahead + "60001", 600, 1);
        String twice = Edge.THING.replace(" c ", " cc ") + "box ";
        edge.bad(spaces(599 - twice.length()) + twice + "cc", 599, 3);
        edge.bad(spaces(600 - twice.length()) + twice + "cc", 600, 1);
        String pads = HEAD + PAD.replace("side 0", "side 5") + "pad c side ";
        edge.bad(spaces(599 - pads.length()) + pads + "05", 599, 4);
        edge.bad(spaces(600 - pads.length()) + pads + "05", 600, 1);
        edge.bad("?" + spaces(639), 0, 1);
    }

    private static void wrongNumbers() {
        edge.of("2 a NUMBER that is not as told (at it);");
        edge.badAt("foam f |1:0", 2);
        edge.badAt("foam f 0:|60001", 2);
        edge.badAt("foam f 0:0 |0:0", 2);
        edge.badAt("foam f 0:1 5:|0", 2);
        edge.badAt(Edge.BOX.replace("price 1", "price |10001"), 2);
        edge.badAt(HEAD + "drop c side 0 from 0 times |0;", 2);
        edge.badAt(HEAD + "drop c side 0 from 0 times |00021;", 2);
    }

    private static void wrongNames() {
        edge.of("3 a NAME that is told twice, or not told as it must be (at it);");
        edge.badAt(Edge.FOAM + "thing |f weighs", 3);
        edge.badAt(Edge.BOX + "box |b", 3);
        edge.badAt("drop |c", 3);
        edge.badAt(HEAD + "pad |f", 3);
        edge.badAt(HEAD + "pad c side 0 |c", 3);
        edge.badAt(HEAD + "pad c side 0 |g", 3);
    }

    private static void tooMany() {
        edge.of("4 a ninth FOAM, THING, BOX, POINT, a 21st DROP, a second PAD on a side "
                + "(at its first WORD, its first NUMBER, the side's NUMBER).");
        edge.badAt(named(8, Edge.FOAM, "f") + "|foam", 4);
        edge.badAt(named(8, Edge.FOAM, "f") + " \n|" + Edge.FOAM, 4);
        edge.badAt(named(8, Edge.THING, "c") + "|thing foam", 4);
        edge.badAt(named(8, Edge.THING, "c") + " |" + Edge.THING, 4);
        edge.badAt(named(8, Edge.BOX, "b") + "|box k", 4);
        edge.badAt(named(8, Edge.BOX, "b") + " |" + Edge.BOX, 4);
        String eight = "foam f 0:0 1:1 2:2 3:3 4:4 5:5 6:6 7:7 ";
        edge.badAt(eight + "|8:8 keeps 1 price 1;", 4);
        edge.badAt(eight + "|8 8", 4);
        edge.badAt(eight + "|8", 4);
        edge.badAt(HEAD + times(20, DROP) + "|" + DROP, 4);
        edge.badAt(HEAD + times(20, DROP) + " |drop q", 4);
        edge.badAt(HEAD + PAD + "pad c side |0 f thick 10 area 1;", 4);
        edge.badAt(HEAD + PAD + "pad c side |00000 q", 4);
        edge.badAt(HEAD + PAD + "pad c side |0", 4);
    }
}
