import java.io.IOException;

/** Boundary cases of promises 1 to 7 and 25: the tape, the days, BOOKS and counts. */
final class CallEdgesTest {
    private static final int MAX = Edge.MAX;
    private static final int MIN = Edge.MIN;
    private static final int SPACES = 0x20202020;
    private static Edge edge;

    public static void main(String[] args) throws IOException {
        edge = new Edge("CallEdgesTest");
        newObject();
        feed();
        feedOrder();
        end();
        next();
        book();
        bookFault();
        twentyBooks();
        fault();
        many();
        count();
        edge.close();
    }

    private static void newObject() {
        edge.of("No BOOKS; TODAY 0; an empty tape.");
        FoamArms x = new FoamArms();
        edge.is("BOOKS", x.count(1), 0);
        edge.is("TODAY", x.count(0), 0);
        edge.is("the tape", x.count(2), 0);
        edge.is("end(0)", x.end(0), true);
        edge.is("end(1)", x.end(1), false);
        for (int kind = 0; kind < 4; kind++) {
            edge.is("many(" + kind + ")", x.many(kind, MAX), 0);
        }
        edge.is("the empty tape is a BOOK", x.book(), 0);
        FoamArms first = Edge.lived();
        FoamArms second = new FoamArms();
        edge.is("another object's life", second.count(0) + second.count(1) + second.count(2), 0);
        edge.is("is its own", first.count(2), 20);
    }

    private static void feed() {
        edge.of("Twenty bytes come behind the tape, of each number the highest first: how many it has; NONE, "
                + "and none come, if it would have more than 640.");
        FoamArms x = new FoamArms();
        for (int n = 20; n <= 640; n += 20) {
            edge.is("feed", x.feed(SPACES, SPACES, SPACES, SPACES, SPACES), n);
        }
        edge.is("660", x.feed(0, 0, 0, 0, 0), -1);
        edge.is("640 stay", x.count(2), 640);
        int[][] due = {{639, -1}, {621, -1}, {620, 640}, {619, 639}, {601, 621}, {1, 21}, {0, 20}};
        for (int[] d : due) {
            edge.is("end(" + d[0] + ")", x.end(d[0]), true);
            edge.is("feed behind " + d[0], x.feed(SPACES, SPACES, SPACES, SPACES, SPACES), d[1]);
            edge.is("the tape", x.count(2), d[1] < 0 ? d[0] : d[1]);
        }
        // The bytes that did not come would be seen as '?' ahead of 600.
        FoamArms y = new FoamArms();
        for (int i = 0; i < 32; i++) {
            y.feed(SPACES, SPACES, SPACES, SPACES, SPACES);
        }
        edge.is("none come", y.feed(0x3f3f3f3f, 0x3f3f3f3f, 0x3f3f3f3f, 0x3f3f3f3f, 0x3f3f3f3f), -1);
        edge.is("end(600)", y.end(600), true);
        edge.is("none came", y.book(), 0);
    }

    /** The bytes are seen as days of a STACK, and behind those that came ahead. */
    private static void feedOrder() {
        edge.of("Twenty bytes come behind the tape, of each number the highest first:");
        int[] five = {0x01020304, 0x05060708, 0x090a0b0c, 0x0d0e0f10, 0x11121314};
        for (int day = 0; day < 20; day++) {
            FoamArms x = Due.with("box b room 1 1 1 price 1 bears 100;");
            // The bytes go down from 255, and on the day of the told one the load is more.
            x.feed(~five[0], ~five[1], ~five[2], ~five[3], ~five[4]);
            int load = 255 - day;
            edge.is("load " + load, x.stack(0, 2, load, 0), day);
        }
        FoamArms x = Due.with("box b room 1 1 1 price 1 bears 100;");
        x.feed(-1, -1, -1, -1, -1);
        x.end(3);
        x.feed(0x00ffffff, -1, -1, -1, -1);
        edge.is("behind the three", x.stack(0, 2, 1, 0), 3);
        x.feed(MIN, -1, -1, -1, -1);
        x.end(2);
        edge.is("128 and 0", x.stack(0, 2, 128, 0), 1);
        x.feed(MAX, -1, -1, -1, -1);
        x.end(2);
        edge.is("127 and 255", x.stack(0, 2, 128, 0), 0);
    }

    private static void end() {
        edge.of("The tape has its first n bytes alone: true; false, if it has not so many, or n is below 0.");
        FoamArms x = new FoamArms();
        x.feed(SPACES, SPACES, SPACES, SPACES, 0x2020203f);
        edge.is("end(21)", x.end(21), false);
        edge.is("20 stay", x.count(2), 20);
        edge.is("end(20)", x.end(20), true);
        edge.is("20 stay", x.count(2), 20);
        edge.is("end(19)", x.end(19), true);
        edge.is("19 stay", x.count(2), 19);
        edge.is("end(20)", x.end(20), false);
        edge.is("the '?' is gone", x.book(), 0);
        x.feed(SPACES, SPACES, SPACES, SPACES, 0x2020203f);
        edge.is("end(20)", x.end(20), true);
        edge.is("the '?' stays", x.book(), -20);
        edge.is("end(0) of the empty one", x.end(0), true);
        x.feed(0, 0, 0, 0, 0);
        edge.is("end(0)", x.end(0), true);
        edge.is("none stay", x.count(2), 0);
        for (int n : new int[] {-1, MIN, 21, 640, 641, MAX}) {
            edge.refused("end(" + n + ")", y -> y.end(n) ? 1 : 0, 0);
        }
        edge.refused("end(20) of 20", y -> y.end(20) ? 1 : 0, 1);
        FoamArms full = new FoamArms();
        for (int i = 0; i < 32; i++) {
            full.feed(SPACES, SPACES, SPACES, SPACES, SPACES);
        }
        edge.is("end(641)", full.end(641), false);
        edge.is("end(640)", full.end(640), true);
    }

    private static void next() {
        edge.of("TODAY goes on by n days (0 to 999): TODAY; NONE: another n, or it would be behind 999.");
        FoamArms x = new FoamArms();
        edge.is("next(0)", x.next(0), 0);
        edge.is("next(1000)", x.next(1000), -1);
        edge.is("next(1)", x.next(1), 1);
        edge.is("next(999)", x.next(999), -1);
        edge.is("TODAY stays", x.count(0), 1);
        edge.is("next(997)", x.next(997), 998);
        edge.is("next(2)", x.next(2), -1);
        edge.is("next(1)", x.next(1), 999);
        edge.is("next(1)", x.next(1), -1);
        edge.is("next(0)", x.next(0), 999);
        edge.is("next(999) at first", new FoamArms().next(999), 999);
        for (int n : new int[] {-1, -999, MIN, 995, 999, 1000, MAX, MAX - 4}) {
            edge.refused("next(" + n + ")", y -> y.next(n), -1);
        }
        edge.refused("next(0)", y -> y.next(0), 5);
        edge.is("next(994) from 5", Edge.lived().next(994), 999);
    }

    private static void book() {
        edge.of("The tape (empty then, here and below) is a BOOK: how many LINES;");
        FoamArms x = new FoamArms();
        edge.is("no LINES", x.book(), 0);
        edge.is("is a BOOK", x.count(1), 1);
        edge.is("one", Due.book(x, Edge.BOX), 1);
        edge.is("the tape is empty", x.count(2), 0);
        edge.is("the empty one again", x.book(), 0);
        edge.is("BOOKS", x.count(1), 3);
        // The most LINES that go into 600 bytes: DROPS are the shortest, and 20.
        StringBuilder text = new StringBuilder(Edge.THING);
        for (int i = 0; i < 20; i++) {
            text.append("drop c side 0 from 1;");
        }
        text.append(Edge.FOAM).append(Edge.BOX).append("pad c side 0 f thick 10 area 1;");
        edge.is("24 LINES", Due.book(x, text.toString()), 24);
        x = Edge.lived();
        x.end(0);
        Due.tape(x, 1, 1, 1, 1);
        x.spans(0, 0, 0, 5);
        edge.is("empty behind spans", x.count(2), 0);
        Due.tape(x, 0, 1);
        x.pads(0, 0, 1, 0, 5);
        edge.is("empty behind pads", x.count(2), 0);
        Due.tape(x, 1);
        x.stack(0, 1, 1, 5);
        edge.is("empty behind stack", x.count(2), 0);
        Due.tape(x, 0, 0, 0, 0, 0, 0, 0, 1, 1, 1);
        Due.journey(x, 0, 5);
        edge.is("empty behind journey", x.count(2), 0);
    }

    private static void bookFault() {
        edge.of("-1 less the place of a FAULT: none is told;");
        edge.bad("?", 0, 1);
        edge.bad(" ?", 1, 1);
        edge.bad("foam f 1", 7, 2);
        StringBuilder spaces = new StringBuilder();
        while (spaces.length() < 599) {
            spaces.append(' ');
        }
        edge.bad(spaces + "?", 599, 1);
        edge.bad(spaces + " ?", 600, 1);
        FoamArms x = Edge.lived();
        x.end(0);
        edge.is("a FAULT", Due.book(x, Edge.BOX + "?"), -1 - Edge.BOX.length());
        FoamArms y = Edge.lived();
        y.end(0);
        Due.book(y, "?");
        edge.is("leaves all but fault()", Edge.state(x).equals(Edge.state(y)), true);
        edge.is("the BOOKS", x.count(1), 1);
        edge.is("the first LINE of it", x.many(2, MAX), 2);
    }

    private static void twentyBooks() {
        edge.of("-1000: there are 20.");
        FoamArms x = new FoamArms();
        for (int i = 1; i <= 19; i++) {
            edge.is("BOOK " + i, x.book(), 0);
        }
        edge.is("a FAULT is told by 19", Due.book(x, "foam f 1"), -8);
        edge.is("its kind", x.fault(), 2);
        edge.is("the 20th", Due.book(x, Edge.THING), 1);
        edge.is("BOOKS", x.count(1), 20);
        for (String text : new String[] {Edge.BOX, "", "?", "foam f 1"}) {
            edge.is("the 21st " + text, Due.book(x, text), -1000);
            edge.is("the tape is empty", x.count(2), 0);
            edge.is("BOOKS", x.count(1), 20);
            edge.is("fault()", x.fault(), 0);
            edge.is("THINGS of the 20th", x.many(1, MAX), 1);
            edge.is("no BOXES", x.many(2, MAX), 0);
        }
        x.next(1);
        edge.is("the next day, too", Due.book(x, Edge.BOX), -1000);
        edge.is("the 20th is the last one", x.many(1, 1), 1);
    }

    private static void fault() {
        edge.of("The kind of the FAULT of the latest book() that did not tell -1000; 0 without one and ahead "
                + "of any.");
        FoamArms x = new FoamArms();
        edge.is("ahead of any", x.fault(), 0);
        x.feed(0x3f3f3f3f, 0, 0, 0, 0);
        edge.is("ahead of any, a FAULT on the tape", x.fault(), 0);
        x.end(0);
        String[] texts = {"?", "foam f 1", "pad x", "", "foam f 0:0 1:1 2:2 3:3 4:4 5:5 6:6 7:7 8:8",
            Edge.BOX, "drop x", "foam f 0:60001", ";"};
        int[] kinds = {1, 2, 3, 0, 4, 0, 3, 2, 1};
        for (int i = 0; i < texts.length; i++) {
            Due.book(x, texts[i]);
            edge.is("the kind of " + texts[i], x.fault(), kinds[i]);
            edge.is("asked twice", x.fault(), kinds[i]);
        }
        while (x.count(1) < 20) {
            x.book();
        }
        edge.is("without one", x.fault(), 0);
        edge.is("-1000", Due.book(x, "pad x"), -1000);
        edge.is("the latest that did not tell -1000", x.fault(), 0);
    }

    private static void many() {
        edge.of("How many FOAMS (kind 0), THINGS (1), BOXES (2), DROPS (3) there are AS OF t; NONE for "
                + "another kind.");
        FoamArms x = new FoamArms();
        x.next(5);
        Due.book(x, Edge.FOAM + Edge.THING + Edge.THING.replace(" c ", " d ") + Edge.BOX
                + Edge.BOX.replace(" b ", " e ") + Edge.BOX.replace(" b ", " g ")
                + "drop c side 0 from 1 times 9;drop c side 0 from 1;drop c side 0 from 1;"
                + "drop d side 0 from 1;pad c side 0 f thick 10 area 1;");
        for (int kind = 0; kind < 4; kind++) {
            edge.is("kind " + kind, x.many(kind, 5), kind + 1);
            edge.is("kind " + kind + " AS OF 4", x.many(kind, 4), 0);
            edge.is("kind " + kind + " AS OF 6", x.many(kind, 6), kind + 1);
            edge.is("kind " + kind + " AS OF the least", x.many(kind, MIN), 0);
            edge.is("kind " + kind + " AS OF the greatest", x.many(kind, MAX), kind + 1);
        }
        for (int kind : new int[] {-1, 4, MAX, MIN}) {
            edge.refused("many(" + kind + ")", y -> y.many(kind, 5), -1);
            edge.refused("many(" + kind + ") of none", y -> y.many(kind, 4), -1);
        }
    }

    private static void count() {
        edge.of("0 TODAY, 1 BOOKS, 2 bytes of the tape. NONE for another what.");
        FoamArms x = Edge.lived();
        edge.is("TODAY", x.count(0), 5);
        edge.is("BOOKS", x.count(1), 1);
        edge.is("bytes", x.count(2), 20);
        for (int what : new int[] {-1, 3, MAX, MIN}) {
            edge.refused("count(" + what + ")", y -> y.count(what), -1);
        }
    }
}
