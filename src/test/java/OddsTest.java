/** Promises 21 to 24: stack, journey, proved, needed. */
final class OddsTest {
    private static final int MAX = Integer.MAX_VALUE;
    private static final int MIN = Integer.MIN_VALUE;
    private static final long WHOLE = 1000000000000000L;
    private static final String VASE = "foam soft 0:0 50:1000 90:5000 keeps 80 price 4;"
            + "thing vase weighs 1000 size 100 200 300 mark 700;"
            + "pad vase side 0 soft thick 100 area 100;box a room 1 1 1 price 0 bears 2001;"
            + "box b room 1 1 1 price 0 bears 60000;";

    public static void main(String[] args) {
        Due due = new Due("OddsTest");
        stack(due);
        journey(due);
        journeyNotAsTold(due);
        proved(due);
        needed(due);
        due.close();
    }

    private static int stackOf(FoamArms x, int box, int n, int w, int... days) {
        Due.tape(x, days);
        return x.stack(box, n, w, 0);
    }

    private static void stack(Due due) {
        FoamArms x = Due.with(VASE);
        due.is("2001 by 50 hundredths, cut", stackOf(x, 0, 2, 1000, 100, 50, 20), 2);
        due.is("one more", stackOf(x, 0, 2, 1001, 100, 50, 20), 1);
        due.is("the first day", stackOf(x, 0, 4, 668, 100, 50, 20), 0);
        due.is("none", stackOf(x, 0, 4, 667, 100, 100, 255), -1);
        due.is("the first, though it bears again", stackOf(x, 0, 2, 100, 100, 1, 100, 1), 1);
        due.is("one box bears nothing", stackOf(x, 0, 1, 60000, 0, 0, 0), -1);
        due.is("no weight", stackOf(x, 0, 99, 0, 0), -1);
        due.is("byte 255", stackOf(x, 0, 2, 5102, 255), -1);
        due.is("byte 255", stackOf(x, 0, 2, 5103, 255), 0);
        due.is("the greatest", stackOf(x, 1, 99, 60000, 255), 0);
        due.is("60000 by 255", stackOf(x, 1, 4, 51000, 255), -1);
        int[] days = new int[400];
        java.util.Arrays.fill(days, 100);
        days[399] = 0;
        due.is("400 days", stackOf(x, 0, 2, 1, days), 399);
        due.is("401 days", stackOf(x, 0, 2, 1, new int[401]), -2);
        due.is("the tape is empty", x.count(2), 0);
        due.is("no days", stackOf(x, 0, 2, 1), -2);
        for (int wrong : new int[] {-1, 0, 100, MAX, MIN}) {
            due.is("n " + wrong, stackOf(x, 0, wrong, 1, 100), -2);
            due.is("the tape is empty", x.count(2), 0);
        }
        for (int wrong : new int[] {-1, 60001, MAX, MIN}) {
            due.is("w " + wrong, stackOf(x, 0, 2, wrong, 100), -2);
        }
        for (int wrong : new int[] {-1, 2, MAX, MIN}) {
            due.is("box " + wrong, stackOf(x, wrong, 2, 1, 100), -2);
        }
        Due.tape(x, 100);
        due.is("as of yesterday", x.stack(0, 2, 1, -1), -2);
        due.is("the tape is empty", x.count(2), 0);
    }

    private static int[] leg(int side, int a, int b, int c, int... shares) {
        return new int[] {side, a >> 8, a & 255, b >> 8, b & 255, c >> 8, c & 255, shares[0],
            shares[1], shares[2]};
    }

    private static void journeyIs(Due due, FoamArms x, long want, int[]... legs) {
        for (int[] leg : legs) {
            Due.tape(x, leg);
        }
        int bytes = x.count(2);
        due.is("journey of " + legs.length, Due.journey(x, 0, 0), want);
        due.is("the tape", x.count(2), want == Due.THROWN ? bytes : 0);
        x.end(0);
    }

    private static void journey(Due due) {
        FoamArms x = Due.with(VASE);
        journeyIs(due, x, 750000000000000L, leg(0, 1000, 1190, 1191, 1, 2, 1));
        journeyIs(due, x, 250000000000000L, leg(0, 1191, 1191, 1190, 1, 2, 1));
        journeyIs(due, x, WHOLE, leg(0, 0, 0, 0, 0, 0, 1));
        journeyIs(due, x, WHOLE, leg(0, 0, 30000, 30000, 255, 0, 0));
        journeyIs(due, x, 0, leg(0, 0, 30000, 0, 0, 1, 0));
        journeyIs(due, x, 0, leg(1, 0, 0, 0, 1, 1, 1));
        journeyIs(due, x, 333333333333333L, leg(0, 0, 1191, 1191, 1, 1, 1));
        long parts = WHOLE;
        int[][] legs = new int[40][];
        for (int i = 0; i < 40; i++) {
            legs[i] = leg(0, 0, 1191, 1000, 255, 250, 254);
            parts = parts * 509 / 759;
        }
        journeyIs(due, x, parts, legs);
        journeyIs(due, x, 111111111111111L, leg(0, 0, 1191, 1191, 1, 1, 1),
                leg(0, 1191, 1190, 1191, 1, 1, 1));
    }

    private static void journeyNotAsTold(Due due) {
        FoamArms x = Due.with(VASE);
        int[] good = leg(0, 0, 0, 0, 1, 1, 1);
        journeyIs(due, x, Due.THROWN);
        journeyIs(due, x, Due.THROWN, new int[] {0});
        journeyIs(due, x, Due.THROWN, good, new int[] {0, 0, 0, 0, 0, 0, 0, 0, 1});
        journeyIs(due, x, Due.THROWN, leg(6, 0, 0, 0, 1, 1, 1));
        journeyIs(due, x, Due.THROWN, leg(255, 0, 0, 0, 1, 1, 1));
        journeyIs(due, x, Due.THROWN, leg(0, 0, 0, 0, 0, 0, 0));
        journeyIs(due, x, Due.THROWN, leg(0, 30001, 0, 0, 1, 1, 1));
        journeyIs(due, x, Due.THROWN, leg(0, 0, 30001, 0, 1, 0, 1));
        journeyIs(due, x, Due.THROWN, leg(0, 0, 0, 65535, 1, 1, 0));
        journeyIs(due, x, Due.THROWN, good, leg(0, 0, 0, 0, 0, 0, 0));
        journeyIs(due, x, Due.THROWN, good, leg(0, 30000, 0, 0, 0, 1, 0), leg(7, 0, 0, 0, 1, 1, 1));
        int[] legs = new int[410];
        for (int i = 0; i < 41; i++) {
            System.arraycopy(good, 0, legs, 10 * i, 10);
        }
        journeyIs(due, x, Due.THROWN, legs);
        for (int thing : new int[] {-1, 1, MAX, MIN}) {
            Due.tape(x, good);
            due.is("thing " + thing, Due.journey(x, thing, 0), Due.THROWN);
            due.is("the tape stays", x.count(2), 10);
            due.is("as of yesterday", Due.journey(x, 0, -1), Due.THROWN);
            due.is("the tape stays whole", Due.journey(x, 0, 0), WHOLE);
        }
    }

    private static void proved(Due due) {
        FoamArms x = new FoamArms();
        due.is("1, 2", x.proved(1, 2), 50);
        due.is("1, 3", x.proved(1, 3), 66);
        due.is("1, 100", x.proved(1, 100), 99);
        due.is("1, 99", x.proved(1, 99), 98);
        due.is("1, 900", x.proved(1, 900), 99);
        due.is("2, 4", x.proved(2, 4), 50);
        due.is("2, 900", x.proved(2, 900), 96);
        due.is("8, 2", x.proved(8, 2), 8);
        due.is("8, 900", x.proved(8, 900), 57);
        due.is("8, 256", x.proved(8, 256), 50);
        due.is("8, 255", x.proved(8, 255), 49);
        for (int wrong : new int[] {-1, 0, 9, MAX, MIN}) {
            due.is("n " + wrong, x.proved(wrong, 2), -1);
        }
        for (int wrong : new int[] {-1, 0, 1, 901, MAX, MIN}) {
            due.is("s " + wrong, x.proved(1, wrong), -1);
        }
    }

    private static void needed(Due due) {
        FoamArms x = new FoamArms();
        due.is("50, 2: less, not as much", x.needed(50, 2), 2);
        due.is("51, 2", x.needed(51, 2), 1);
        due.is("99, 100", x.needed(99, 100), 2);
        due.is("99, 101", x.needed(99, 101), 2);
        due.is("99, 99", x.needed(99, 99), 1);
        due.is("99, 1000000", x.needed(99, 1000000), 4);
        due.is("1, 2", x.needed(1, 2), 69);
        due.is("9, 2477", x.needed(9, 2477), 83);
        due.is("1, 1000000: too many", x.needed(1, 1000000), -1);
        due.is("2, 1000000", x.needed(2, 1000000), 684);
        due.is("999 is still told", x.needed(1, 22931), 999);
        due.is("1000 is not", x.needed(1, 22932), -1);
        for (int wrong : new int[] {-1, 0, 100, MAX, MIN}) {
            due.is("p " + wrong, x.needed(wrong, 2), -1);
        }
        for (int wrong : new int[] {-1, 0, 1, 1000001, MAX, MIN}) {
            due.is("s " + wrong, x.needed(50, wrong), -1);
        }
    }
}
