import java.util.Arrays;

/** Promises 5 to 7: book, fault, many; the BOOK's language and its FAULTS. */
final class BookTest {
    private static final String FOAM = "foam f 0:0 5:5 keeps 9 price 9;";
    private static final String THING = "thing c weighs 1 size 1 1 1 mark 1;";
    private static final String BOX = "box b room 1 1 1 price 1 bears 1;";
    private static final String[] NAMES = {"a", "d", "e", "g", "h", "i", "j", "k", "l"};
    private static final String RESERVED = "foam thing box pad drop keeps price weighs size mark "
            + "room bears side thick area from times";
    private static Due due;

    public static void main(String[] args) {
        due = new Due("BookTest");
        wholeTexts();
        tokens();
        grammar();
        bounds();
        names();
        tooMany();
        sixHundredBytes();
        asOfDays();
        twentyBooks();
        due.close();
    }

    private static void good(String text, int lines) {
        FoamArms x = new FoamArms();
        due.is("book " + text, Due.book(x, text), lines);
        due.is("fault of " + text, x.fault(), 0);
        due.is("books after " + text, x.count(1), 1);
        due.is("tape after " + text, x.count(2), 0);
    }

    private static void bad(String text, int place, int kind) {
        FoamArms x = new FoamArms();
        due.is("book " + text, Due.book(x, text), -1 - place);
        due.is("fault of " + text, x.fault(), kind);
        due.is("books after " + text, x.count(1), 0);
        due.is("tape after " + text, x.count(2), 0);
    }

    /** The FAULT is at the first '|', which is no part of the text. */
    private static void badAt(String marked, int kind) {
        int place = marked.indexOf('|');
        bad(marked.substring(0, place) + marked.substring(place + 1), place, kind);
    }

    private static void wholeTexts() {
        good("", 0);
        good(" \n ", 0);
        good(FOAM, 1);
        good(THING, 1);
        good(BOX, 1);
        good(FOAM + THING + BOX + "pad c side 5 f thick 600 area 2000;drop c side 0 from 0;", 5);
        badAt("foam\nf 0 : 0\n5:|5keeps", 1);
    }

    private static void tokens() {
        good("foam\nf\n0 : 0 1\n:\n1 keeps 00100 price 0 ;", 1);
        good("foam abcdefgh 0:0 1:1 keeps 1 price 1;", 1);
        good("foam f 00000:00000 00095:60000 keeps 1 price 1;", 1);
        badAt("foam |abcdefghi 0:0 1:1 keeps 1 price 1;", 1);
        badAt("foam f 0:0 |000001:1", 1);
        badAt("foam f 0:0 |1a:1", 1);
        badAt("foam |f1 0:0", 1);
        badAt("|Foam", 1);
        badAt("foam |F", 1);
        badAt("foam|\tf", 1);
        badAt("foam|\rf", 1);
        badAt("foam|\0f", 1);
        badAt("foam |\u00e4", 1);
        badAt("foam |\u00ff", 1);
        badAt("foam f 0:0 |-1:0", 1);
        badAt("foam f 0|,0", 1);
        badAt("  |;", 1);
        badAt("|:", 1);
        badAt("|7", 1);
        badAt(FOAM + "|;", 1);
    }

    /** Each LINE cut behind each of its TOKENS, and with a TOKEN that can't come there. */
    private static void grammar() {
        String head = FOAM + THING;
        String[] lines = {
            "foam x 0 : 0 5 : 5 keeps 9 price 9 ;", "thing y weighs 1 size 1 1 1 mark 1 ;",
            "box z room 1 1 1 price 1 bears 1 ;", "pad c side 0 f thick 10 area 1 ;",
            "drop c side 0 from 1 times 2 ;",
        };
        for (String line : lines) {
            String[] parts = line.split(" ");
            StringBuilder ahead = new StringBuilder(head);
            for (int i = 0; i < parts.length; i++) {
                if (i > 0) {
                    bad(ahead.toString(), ahead.length(), 1);
                }
                for (String wrong : new String[] {"weighs", ";", ":", "?", "7", "qq"}) {
                    if (canNotCome(wrong, parts, i)) {
                        bad(ahead + wrong, ahead.length(), 1);
                    }
                }
                ahead.append(parts[i]).append(' ');
            }
            good(ahead.toString(), 3);
        }
        good(head + "drop c side 0 from 1;", 3);
        badAt("foam f 0:0 |keeps 1 price 1;", 1);
        badAt("foam f 0:0|;", 1);
    }

    private static boolean canNotCome(String wrong, String[] parts, int i) {
        boolean number = Character.isDigit(parts[i].charAt(0));
        boolean name = parts[i].length() == 1 && Character.isLetter(parts[i].charAt(0));
        boolean morePoints = parts[i].equals("keeps");
        boolean optional = parts[i].equals("times");
        return !wrong.equals(parts[i]) && !(wrong.equals("7") && (number || morePoints))
                && !(wrong.equals("qq") && name) && !(wrong.equals(";") && optional);
    }

    /** A NUMBER at its least and greatest is good, one beyond is a FAULT at it. */
    private static void bounds() {
        bound("foam f 0:0 5:5 keeps ", " price 1;", 0, 100);
        bound("foam f 0:0 5:5 keeps 1 price ", ";", 0, 100);
        bound("foam f ", ":0 5:5 keeps 1 price 1;", 0, 0);
        bound("foam f 0:", " 5:60000 keeps 1 price 1;", 0, 60000);
        bound("foam f 0:7 ", ":7 keeps 1 price 1;", 1, 95);
        bound("foam f 0:7 3:7 ", ":7 keeps 1 price 1;", 4, 95);
        bound("foam f 0:7 3:", " keeps 1 price 1;", 7, 60000);
        bound("foam f 0:7 3:9 4:", " keeps 1 price 1;", 9, 60000);
        bound("thing c weighs ", " size 1 1 1 mark 1;", 1, 60000);
        bound("thing c weighs 1 size ", " 1 1 mark 1;", 1, 9999);
        bound("thing c weighs 1 size 1 ", " 1 mark 1;", 1, 9999);
        bound("thing c weighs 1 size 1 1 ", " mark 1;", 1, 9999);
        bound("thing c weighs 1 size 1 1 1 mark ", ";", 1, 60000);
        bound("box b room ", " 1 1 price 1 bears 1;", 1, 9999);
        bound("box b room 1 ", " 1 price 1 bears 1;", 1, 9999);
        bound("box b room 1 1 ", " price 1 bears 1;", 1, 9999);
        bound("box b room 1 1 1 price ", " bears 1;", 0, 10000);
        bound("box b room 1 1 1 price 1 bears ", ";", 1, 60000);
        String head = FOAM + THING;
        bound(head + "pad c side ", " f thick 10 area 1;", 0, 5);
        bound(head + "pad c side 0 f thick ", " area 1;", 10, 600);
        bound(head + "pad c side 0 f thick 10 area ", ";", 1, 2000);
        bound(head + "drop c side ", " from 1;", 0, 5);
        bound(head + "drop c side 0 from ", ";", 0, 30000);
        bound(head + "drop c side 0 from 0 times ", ";", 1, 20);
    }

    private static void bound(String ahead, String behind, int least, int most) {
        FoamArms x = new FoamArms();
        due.is(ahead + least, Due.book(x, ahead + least + behind) > 0, true);
        due.is(ahead + most, Due.book(x, ahead + most + behind) > 0, true);
        if (least > 0) {
            bad(ahead + (least - 1) + behind, ahead.length(), 2);
        }
        bad(ahead + (most + 1) + behind, ahead.length(), 2);
        bad(ahead + 99999 + behind, ahead.length(), 2);
    }

    private static void names() {
        for (String word : RESERVED.split(" ")) {
            badAt("foam |" + word, 1);
            badAt("thing |" + word, 1);
            badAt("box |" + word, 1);
            badAt(FOAM + THING + "pad |" + word, 1);
            badAt(FOAM + THING + "drop |" + word, 1);
            badAt(FOAM + THING + "pad c side 0 |" + word, 1);
            good("box " + word + "s room 1 1 1 price 1 bears 1;", 1);
        }
        String head = FOAM + THING + BOX;
        for (String name : new String[] {"f", "c", "b"}) {
            badAt(head + "foam |" + name + " 0:0", 3);
            badAt(head + "thing |" + name + " weighs", 3);
            badAt(head + "box |" + name + " room", 3);
        }
        for (String name : new String[] {"f", "b", "q", "cc"}) {
            badAt(head + "pad |" + name, 3);
            badAt(head + "drop |" + name, 3);
        }
        for (String name : new String[] {"c", "b", "q", "ff"}) {
            badAt(head + "pad c side 0 |" + name, 3);
        }
        badAt("pad |c side 0 f thick 10 area 1;" + head, 3);
        manyNames();
        badAt("foam f 0:0 1:1 keeps 1 price 1;foam |f 7", 3);
        badAt("foam f 0:0 1:1 keeps 1 price 1|?foam f", 1);
    }

    /** As many NAMES as 600 bytes hold, of which some begin alike. */
    private static void manyNames() {
        good(BOX.replace("box b", "box a") + BOX.replace("box b", "box aa") + BOX, 3);
        StringBuilder text = new StringBuilder(THING + THING.replace("thing c", "thing x"));
        for (int i = 0; i < 8; i++) {
            text.append("foam ").append((char) ('f' + i)).append(" 0:0 1:1 keeps 1 price 1;");
        }
        for (int i = 0; i < 7; i++) {
            text.append(BOX.replace("box b", "box " + (char) ('p' + i)));
        }
        good(text + BOX.replace("box b", "box o"), 18);
        badAt(text + "box |c", 3);
        badAt(text + "box |m", 3);
        badAt(text + "box |v", 3);
    }

    private static void tooMany() {
        StringBuilder foams = new StringBuilder();
        StringBuilder things = new StringBuilder();
        StringBuilder boxes = new StringBuilder();
        for (int i = 0; i < 8; i++) {
            foams.append(FOAM.replace("foam f", "foam " + NAMES[i]));
            things.append(THING.replace("thing c", "thing " + NAMES[i]));
            boxes.append(BOX.replace("box b", "box " + NAMES[i]));
        }
        good(foams.toString(), 8);
        good(things.toString(), 8);
        good(boxes.toString(), 8);
        badAt(foams + "|foam foam", 4);
        badAt(things + "|thing a", 4);
        badAt(boxes + "|box ?", 4);
        badAt(boxes + "foam |a", 3);
        StringBuilder drops = new StringBuilder(THING);
        for (int i = 0; i < 20; i++) {
            drops.append("drop c side 0 from 1;");
        }
        good(drops.toString(), 21);
        badAt(drops + "|drop", 4);
        points();
        String pad = "pad c side 3 f thick 10 area 1;";
        good(FOAM + THING + pad + pad.replace('3', '4'), 4);
        badAt(FOAM + THING + pad + "pad c side |3 f thick 10 area 1;", 4);
        badAt(FOAM + THING + pad + "pad c side |6 f thick 10 area 1;", 2);
        badAt(FOAM + THING + pad + "pad c side |33333", 2);
    }

    private static void points() {
        String eight = "foam f 0:0 1:0 2:0 3:0 4:0 5:0 6:0 7:0 ";
        good(eight + "keeps 1 price 1;", 1);
        badAt(eight + "|8:0 keeps 1 price 1;", 4);
        badAt(eight + "|8", 4);
        badAt(eight + "|7:0", 2);
        badAt(eight + "|96:0", 2);
        badAt(eight + "|;", 1);
    }

    private static void sixHundredBytes() {
        good(blanks(600), 0);
        good(FOAM + blanks(600 - FOAM.length()), 1);
        bad(blanks(601), 600, 1);
        bad(FOAM + blanks(620 - FOAM.length()), 600, 1);
        bad("foam" + blanks(596), 600, 1);
        bad("foam" + blanks(597), 600, 1);
        bad(blanks(590) + "foam", 594, 1);
        bad(blanks(598) + "foam", 600, 1);
        bad(blanks(600) + "?", 600, 1);
        bad(blanks(599) + "?", 599, 1);
        bad(blanks(598) + "foamfoamf", 598, 1);
        bad(blanks(598) + "qqq", 598, 1);
        bad(blanks(594) + "foam abcdefghi", 599, 1);
        bad(blanks(594) + "foam times", 599, 1);
        bad(blanks(594) + "foam time", 600, 1);
        String start = "thing c weighs ";
        bad(blanks(598 - start.length()) + start + "600000", 598, 1);
        bad(blanks(598 - start.length()) + start + "60001", 598, 2);
        bad(blanks(598 - start.length()) + start + "60000", 600, 1);
        bad(blanks(600 - start.length()) + start + "60001", 600, 1);
        bad("?" + blanks(639), 0, 1);
    }

    private static String blanks(int n) {
        char[] row = new char[n];
        Arrays.fill(row, ' ');
        return new String(row);
    }

    private static void asOfDays() {
        FoamArms x = new FoamArms();
        x.next(5);
        due.is("a", Due.book(x, FOAM + THING + BOX + "drop c side 0 from 0 times 9;"), 4);
        x.next(3);
        due.is("b", Due.book(x, THING), 1);
        due.is("c, on the same day", Due.book(x, ""), 0);
        x.next(2);
        due.is("d", Due.book(x, "?"), -1);
        due.is("books", x.count(1), 3);
        for (int kind = 0; kind < 4; kind++) {
            due.is("as of 4", x.many(kind, 4), 0);
            due.is("as of min", x.many(kind, Integer.MIN_VALUE), 0);
            due.is("as of 5", x.many(kind, 5), 1);
            due.is("as of 7", x.many(kind, 7), 1);
            due.is("as of 8", x.many(kind, 8), 0);
            due.is("as of max", x.many(kind, Integer.MAX_VALUE), 0);
        }
        due.is("many(-1)", x.many(-1, 5), -1);
        due.is("many(4)", x.many(4, 5), -1);
        due.is("fault of the latest", x.fault(), 1);
        due.is("e", Due.book(x, BOX + THING + BOX.replace("box b", "box bb")), 3);
        due.is("no fault of the latest", x.fault(), 0);
        due.is("boxes", x.many(2, 10), 2);
        due.is("boxes the day ahead", x.many(2, 9), 0);
        due.is("drops", x.many(3, 10), 0);
    }

    private static void twentyBooks() {
        FoamArms x = new FoamArms();
        for (int i = 1; i <= 20; i++) {
            due.is("book " + i, Due.book(x, i == 20 ? THING : ""), i == 20 ? 1 : 0);
            due.is("books", x.count(1), i);
            if (i < 20) {
                due.is("a fault tells none", Due.book(x, "foam f 1"), -8);
            }
        }
        due.is("fault", x.fault(), 0);
        due.is("the 21st", Due.book(x, THING + BOX), -1000);
        due.is("books stay", x.count(1), 20);
        due.is("the tape is empty", x.count(2), 0);
        due.is("the 20th stays", x.many(1, 0), 1);
        due.is("without the 21st", x.many(2, 0), 0);
        due.is("a FAULT then", Due.book(x, "?"), -1000);
        due.is("is not told", x.fault(), 0);
    }
}
