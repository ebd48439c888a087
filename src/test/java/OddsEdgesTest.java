import java.io.IOException;
import java.util.Arrays;

/** Boundary cases of the terms' last part and of promises 21 to 24: STACKS, JOURNEYS, tests. */
final class OddsEdgesTest {
    private static final int MAX = Edge.MAX;
    private static final int MIN = Edge.MIN;
    private static final long WHOLE = 1000000000000000L;
    /** It HOLDS from 940, and not from 941, on each side but 4. */
    private static final String SENT = "foam f 0:100 95:100 keeps 0 price 1;"
            + "thing c weighs 1 size 1 1 1 mark 60000;pad c side 0 f thick 10 area 1;"
            + "pad c side 1 f thick 10 area 1;pad c side 2 f thick 10 area 1;"
            + "pad c side 3 f thick 10 area 1;pad c side 5 f thick 10 area 1;";
    private static Edge edge;

    public static void main(String[] args) throws IOException {
        edge = new Edge("OddsEdgesTest");
        stackFalls();
        stack();
        journeyIsCut();
        journey();
        journeyThrows();
        throwsChangeNothing();
        greatestShare();
        proved();
        leastTests();
        needed();
        edge.close();
    }

    // ---- STACKS

    private static int stackOf(int bears, int n, int w, int... days) {
        FoamArms x = Due.with("box b room 1 1 1 price 1 bears " + bears + ";");
        Due.tape(x, days);
        int day = x.stack(0, n, w, 0);
        edge.is("the tape is empty", x.count(2), 0);
        return day;
    }

    private static void stackFalls() {
        edge.of("A STACK of n like boxes, of which each weighs w: the lowest one bears BEARS times the "
                + "day's hundredths by 100, cut; it FALLS on the first day (0 the first) on which n less 1 "
                + "times w is more.");
        edge.is("as much", stackOf(100, 2, 100, 100), -1);
        edge.is("one more", stackOf(100, 2, 101, 100), 0);
        edge.is("199 by 50 hundredths, cut", stackOf(199, 2, 99, 50), -1);
        edge.is("199 by 50 hundredths, cut", stackOf(199, 2, 100, 50), 0);
        edge.is("n less 1", stackOf(100, 3, 50, 100), -1);
        edge.is("n less 1", stackOf(100, 4, 34, 100), 0);
        edge.is("1 by 99 hundredths", stackOf(1, 2, 1, 99), 0);
        edge.is("1 by 100 hundredths", stackOf(1, 2, 1, 100), -1);
        edge.is("0 hundredths bear nothing", stackOf(60000, 2, 1, 0), 0);
        edge.is("no load falls on none", stackOf(1, 2, 0, 0), -1);
        edge.is("255 hundredths", stackOf(60000, 4, 51000, 255), -1);
        edge.is("255 hundredths", stackOf(60000, 2, 60000, 255), -1);
        edge.is("254 hundredths", stackOf(60000, 4, 51000, 254), 0);
        edge.is("128 hundredths are no less than 127", stackOf(100, 2, 128, 128, 127), 1);
        edge.is("the first day", stackOf(100, 2, 50, 49, 50, 49), 0);
        edge.is("the second", stackOf(100, 2, 50, 50, 49, 100), 1);
        edge.is("the last", stackOf(100, 2, 50, 50, 100, 49), 2);
    }

    private static void stack() {
        edge.of("The day on which a STACK of n (1 to 99) of a BOX, each weighing w (0 to 60000), FALLS, the "
                + "tape's bytes being hundredths by days (1 to 400 bytes); NONE: on none of them; -2: not as "
                + "told.");
        edge.is("n 1", stackOf(1, 1, 60000, 0), -1);
        edge.is("n 2", stackOf(1, 2, 60000, 100), 0);
        edge.is("n 99", stackOf(98, 99, 1, 100), -1);
        edge.is("n 99", stackOf(97, 99, 1, 100), 0);
        edge.is("w 60000", stackOf(60000, 2, 60000, 100), -1);
        edge.is("n 99, w 60000", stackOf(60000, 99, 60000, 255), 0);
        int[] days = new int[400];
        Arrays.fill(days, 100);
        edge.is("400 days, none", stackOf(1, 2, 1, days), -1);
        days[399] = 99;
        edge.is("400 days, the last", stackOf(1, 2, 1, days), 399);
        edge.refusedOf(new int[0], "no days", y -> y.stack(0, 2, 1, 5), -2);
        edge.refusedOf(new int[401], "401 days", y -> y.stack(0, 2, 1, 5), -2);
        edge.refusedOf(new int[640], "640 days", y -> y.stack(0, 2, 1, 5), -2);
        int[] day = {100};
        for (int n : new int[] {0, -1, 100, MAX, MIN}) {
            edge.refusedOf(day, "n " + n, y -> y.stack(0, n, 1, 5), -2);
        }
        for (int w : new int[] {-1, 60001, MAX, MIN}) {
            edge.refusedOf(day, "w " + w, y -> y.stack(0, 2, w, 5), -2);
        }
        for (int box : new int[] {-1, 2, 8, MAX, MIN}) {
            edge.refusedOf(day, "box " + box, y -> y.stack(box, 2, 1, 5), -2);
        }
        edge.refusedOf(day, "AS OF 4", y -> y.stack(0, 2, 1, 4), -2);
        edge.refusedOf(day, "on none", y -> y.stack(1, 2, 500, 5), -1);
        edge.refusedOf(day, "on the first", y -> y.stack(1, 2, 501, 6), 0);
    }

    // ---- JOURNEYS

    private static int[] leg(int side, int a, int b, int c, int... shares) {
        return new int[] {side, a >> 8, a & 255, b >> 8, b & 255, c >> 8, c & 255, shares[0],
            shares[1], shares[2]};
    }

    private static long journeyOf(FoamArms x, int[]... legs) {
        for (int[] leg : legs) {
            Due.tape(x, leg);
        }
        return Due.journey(x, 0, 0);
    }

    private static void journeyIsCut() {
        edge.of("A JOURNEY: legs, each a side and three heights with shares (of all three together): the "
                + "chance that all HOLD (KEPT 100), legs being independent, told by parts of 10^15: begun "
                + "with 10^15, each leg times the shares that HOLD by all, cut.");
        FoamArms x = Due.with(SENT);
        edge.is("all HOLD", journeyOf(x, leg(0, 0, 1, 940, 1, 1, 1)), WHOLE);
        edge.is("none does", journeyOf(x, leg(0, 941, 942, 30000, 1, 1, 1)), 0);
        edge.is("the first", journeyOf(x, leg(0, 940, 941, 941, 1, 2, 4)), 142857142857142L);
        edge.is("the second", journeyOf(x, leg(0, 941, 940, 941, 1, 2, 4)), 285714285714285L);
        edge.is("the third", journeyOf(x, leg(0, 941, 941, 940, 1, 2, 4)), 571428571428571L);
        edge.is("two", journeyOf(x, leg(0, 940, 940, 941, 1, 2, 4)), 428571428571428L);
        edge.is("no side", journeyOf(x, leg(4, 0, 0, 0, 1, 1, 1)), 0);
        // A third of a third, cut twice, and KEPT is 100 on each leg though the foam keeps nothing.
        int[] third = leg(0, 940, 941, 941, 1, 1, 1);
        edge.is("two legs", journeyOf(x, third, third), 111111111111111L);
        edge.is("three legs", journeyOf(x, third, third, third), 37037037037037L);
        edge.is("two thirds", journeyOf(x, leg(0, 940, 940, 941, 1, 1, 1)), 666666666666666L);
        edge.is("in order", journeyOf(x, third, leg(0, 940, 940, 941, 1, 1, 1)), 222222222222222L);
        edge.is("on to 0", journeyOf(x, third, leg(4, 0, 0, 0, 1, 1, 1), third), 0);
        edge.is("the greatest shares", journeyOf(x, leg(0, 0, 0, 0, 255, 255, 255)), WHOLE);
        edge.is("764 of 765", journeyOf(x, leg(0, 0, 0, 0, 255, 255, 255),
                leg(0, 0, 0, 941, 255, 255, 1)), WHOLE / 511 * 510 + WHOLE % 511 * 510 / 511);
    }

    private static void journey() {
        edge.of("A JOURNEY of a THING, the tape's ten bytes a leg (1 to 40 legs) being a side, three heights "
                + "(two bytes each, the higher first) and three shares: the parts.");
        FoamArms x = Due.with(SENT);
        int[] sure = leg(0, 0, 0, 0, 1, 1, 1);
        edge.is("1 leg", journeyOf(x, sure), WHOLE);
        edge.is("the tape is empty", x.count(2), 0);
        int[] half = leg(0, 940, 941, 941, 2, 1, 1);
        long parts = WHOLE;
        int[] forty = new int[400];
        for (int i = 0; i < 40; i++) {
            System.arraycopy(half, 0, forty, 10 * i, 10);
            parts /= 2;
        }
        edge.is("40 legs", journeyOf(x, forty), parts);
        edge.is("39 legs", journeyOf(x, Arrays.copyOf(forty, 390)), WHOLE >> 39);
        edge.is("768 is 3, 0", journeyOf(x, leg(0, 768, 3, 768, 1, 1, 1)), WHOLE);
        edge.is("3, 173", journeyOf(x, new int[] {0, 3, 173, 3, 172, 173, 3, 1, 1, 1}), Due.THROWN);
        x.end(0);
        edge.is("the higher byte first", journeyOf(x, new int[] {0, 3, 173, 3, 172, 0, 255, 1, 2, 4}),
                857142857142857L);
        edge.is("each has its share", journeyOf(x, new int[] {0, 4, 0, 4, 0, 3, 0, 1, 2, 4}),
                571428571428571L);
    }

    /** Throws, and the tape stays as it was: its first leg can still be used. */
    private static void thrown(String call, int[] first, int... tape) {
        FoamArms x = Due.with(SENT);
        Due.tape(x, first);
        Due.tape(x, tape);
        int bytes = first.length + tape.length;
        edge.is(call, Due.journey(x, 0, 0), Due.THROWN);
        edge.is("the tape stays", x.count(2), bytes);
        edge.is("it throws again", Due.journey(x, 0, 0), Due.THROWN);
        if (first.length == 10) {
            edge.is("end(10)", x.end(10), true);
            edge.is("the first leg stays", Due.journey(x, 0, 0), 571428571428571L);
        }
    }

    private static void journeyThrows() {
        edge.of("NoSuchElementException: not as told (sides 0 to 5, heights up to 30000, shares not all 0), "
                + "or no such THING.");
        int[] good = leg(5, 941, 941, 940, 1, 2, 4);
        thrown("no bytes", new int[0]);
        for (int n = 1; n < 10; n++) {
            thrown(n + " bytes", new int[0], Arrays.copyOf(good, n));
            thrown("10 and " + n + " bytes", good, Arrays.copyOf(good, n));
        }
        int[] more = new int[400];
        for (int i = 0; i < 40; i++) {
            System.arraycopy(good, 0, more, 10 * i, 10);
        }
        thrown("41 legs", good, more);
        thrown("40 legs and 1 byte", good, Arrays.copyOf(more, 391));
        for (int side = 0; side <= 5; side++) {
            FoamArms x = Due.with(SENT);
            edge.is("side " + side, journeyOf(x, leg(side, 0, 0, 0, 1, 1, 1)), side == 4 ? 0 : WHOLE);
        }
        for (int side : new int[] {6, 7, 128, 255}) {
            thrown("side " + side, good, leg(side, 0, 0, 0, 1, 1, 1));
        }
        for (int height : new int[] {30001, 30208, 32768, 65535}) {
            thrown("first height " + height, good, leg(0, height, 0, 0, 0, 1, 1));
            thrown("second height " + height, good, leg(0, 0, height, 0, 1, 0, 1));
            thrown("third height " + height, good, leg(0, 0, 0, height, 1, 1, 0));
        }
        FoamArms x = Due.with(SENT);
        edge.is("30000", journeyOf(x, leg(0, 30000, 30000, 30000, 1, 1, 1)), 0);
        thrown("shares 0", good, leg(0, 0, 0, 0, 0, 0, 0));
        edge.is("shares 1, 0, 0", journeyOf(x, leg(0, 0, 941, 941, 1, 0, 0)), WHOLE);
        edge.is("shares 0, 1, 0", journeyOf(x, leg(0, 0, 941, 941, 0, 1, 0)), 0);
        edge.is("shares 0, 0, 1", journeyOf(x, leg(0, 941, 941, 0, 0, 0, 1)), WHOLE);
        thrown("a wrong leg behind one that none HOLDS", good, 4, 0, 0, 0, 0, 0, 0, 1, 1, 1,
                6, 0, 0, 0, 0, 0, 0, 1, 1, 1);
        for (int thing : new int[] {-1, 1, 8, MAX, MIN}) {
            edge.refused("journey of " + thing, y -> Due.journey(y, thing, 5), Due.THROWN);
        }
        edge.refused("journey AS OF 4", y -> Due.journey(y, 0, 4), Due.THROWN);
    }

    private static void throwsChangeNothing() {
        edge.of("A call that throws changes nothing.");
        edge.refused("no such THING", y -> Due.journey(y, 1, 5), Due.THROWN);
        FoamArms x = Edge.lived();
        Due.tape(x, 6, 0, 0, 0, 0, 0, 0, 1, 1, 1);
        edge.is("a wrong leg", Due.journey(x, 0, 5), Due.THROWN);
        edge.is("30 bytes stay", x.count(2), 30);
        edge.is("end(20)", x.end(20), true);
        edge.is("all is as it was", Edge.state(x).equals(Edge.state(Edge.lived())), true);
        FoamArms empty = new FoamArms();
        edge.is("a new object", Due.journey(empty, 0, 0), Due.THROWN);
        edge.is("is a new one still", Edge.state(empty).equals(Edge.state(new FoamArms())), true);
    }

    // ---- what tests prove

    private static void greatestShare() {
        edge.of("PROVED by n tests that all held, one in s: the greatest share p of 100 (0 to 99) with "
                + "(100 - p)^n * s at least 100^n (n 1 to 8).");
        FoamArms x = new FoamArms();
        for (int n = 1; n <= 8; n++) {
            // 50^n * 2^n is just 100^n.
            edge.is("just as much by " + n, x.proved(n, 1 << n), 50);
            if (n > 1) {
                edge.is("one less by " + n, x.proved(n, (1 << n) - 1) < 50, true);
            }
        }
        edge.is("25 * 4", x.proved(1, 4), 75);
        edge.is("1 * 100", x.proved(1, 100), 99);
        edge.is("1 * 99", x.proved(1, 99), 98);
        edge.is("10 * 10 * 100", x.proved(2, 100), 90);
        edge.is("10 * 10 * 99", x.proved(2, 99), 89);
        edge.is("99 at most", x.proved(1, 900), 99);
    }

    private static void proved() {
        edge.of("PROVED by n tests, one in s (2 to 900): the share; NONE: not as told.");
        int[] two = {50, 29, 20, 15, 12, 10, 9, 8};
        int[] most = {99, 96, 89, 81, 74, 67, 62, 57};
        FoamArms x = new FoamArms();
        for (int n = 1; n <= 8; n++) {
            edge.is("proved(" + n + ", 2)", x.proved(n, 2), two[n - 1]);
            edge.is("proved(" + n + ", 900)", x.proved(n, 900), most[n - 1]);
        }
        for (int n : new int[] {0, -1, 9, MAX, MIN}) {
            edge.refused("proved(" + n + ", 2)", y -> y.proved(n, 2), -1);
        }
        for (int s : new int[] {1, 0, -1, 901, MAX, MIN}) {
            edge.refused("proved(1, " + s + ")", y -> y.proved(1, s), -1);
            edge.refused("proved(8, " + s + ")", y -> y.proved(8, s), -1);
        }
    }

    private static void leastTests() {
        edge.of("NEEDED for a share p (1 to 99): the least n, at most 999, for which 10^15, times 100 less p "
                + "by 100, cut, n times, is less than 10^15 by s, cut.");
        FoamArms x = new FoamArms();
        edge.is("half is no less than half", x.needed(50, 2), 2);
        edge.is("49 hundredths are", x.needed(51, 2), 1);
        edge.is("a quarter is no less than a quarter", x.needed(50, 4), 3);
        edge.is("less than a third", x.needed(50, 3), 2);
        edge.is("a hundredth is no less", x.needed(99, 100), 2);
        edge.is("a hundredth is less than a 99th", x.needed(99, 99), 1);
        edge.is("998 times", x.needed(1, 22702), 998);
        edge.is("999 times", x.needed(1, 22703), 999);
        edge.is("999 times", x.needed(1, 22931), 999);
        edge.is("not a thousand times", x.needed(1, 22932), -1);
    }

    private static void needed() {
        edge.of("NEEDED for a share p, one in s (2 to 1000000); NONE: not as told, or more than 999.");
        FoamArms x = new FoamArms();
        edge.is("needed(1, 2)", x.needed(1, 2), 69);
        edge.is("needed(99, 2)", x.needed(99, 2), 1);
        edge.is("needed(99, 1000000)", x.needed(99, 1000000), 4);
        edge.is("needed(2, 1000000)", x.needed(2, 1000000), 684);
        edge.is("needed(1, 1000000)", x.needed(1, 1000000), -1);
        for (int p : new int[] {0, -1, 100, 101, MAX, MIN}) {
            edge.refused("needed(" + p + ", 2)", y -> y.needed(p, 2), -1);
        }
        for (int s : new int[] {1, 0, -1, 1000001, MAX, MIN}) {
            edge.refused("needed(99, " + s + ")", y -> y.needed(99, s), -1);
        }
        edge.refused("more than 999", y -> y.needed(1, 22932), -1);
    }
}
