/** Promises 8 to 10: push, squeeze, blow. */
final class SqueezeTest {
    private static final int MAX = Integer.MAX_VALUE;
    private static final int MIN = Integer.MIN_VALUE;

    public static void main(String[] args) {
        Due due = new Due("SqueezeTest");
        pushes(due);
        squeezes(due);
        blows(due);
        asOf(due);
        due.close();
    }

    private static void pushes(Due due) {
        FoamArms x = Due.with("foam f 0:7 3:9 10:9 95:60000 keeps 1 price 1;"
                + "foam g 0:0 1:0 keeps 1 price 1;");
        due.is("at the first POINT", x.push(0, 0, 100, 0), 7);
        due.is("between, cut", x.push(0, 1, 100, 0), 7);
        due.is("between, cut", x.push(0, 2, 100, 0), 8);
        due.is("at a POINT", x.push(0, 3, 100, 0), 9);
        due.is("on a flat", x.push(0, 7, 100, 0), 9);
        due.is("at 11", x.push(0, 11, 100, 0), 9 + 59991 / 85);
        due.is("at 94", x.push(0, 94, 100, 0), 9 + 59991 * 84 / 85);
        due.is("at the last", x.push(0, 95, 100, 0), 60000);
        due.is("behind the last", x.push(0, 96, 100, 0), -1);
        due.is("behind g's last", x.push(1, 2, 100, 0), -1);
        due.is("g's last", x.push(1, 1, 200, 0), 0);
        due.is("cut twice", x.push(0, 2, 99, 0), 7);
        due.is("cut first", x.push(0, 1, 200, 0), 14);
        due.is("kept 0", x.push(0, 95, 0, 0), 0);
        due.is("kept 200", x.push(0, 95, 200, 0), 120000);
        due.is("kept 1", x.push(0, 95, 1, 0), 600);
        due.is("kept -1", x.push(0, 95, -1, 0), -1);
        due.is("kept 201", x.push(0, 95, 201, 0), -1);
        for (int wrong : new int[] {-1, 2, 8, MAX, MIN}) {
            due.is("foam " + wrong, x.push(wrong, 0, 100, 0), -1);
        }
        for (int wrong : new int[] {-1, 97, MAX, MIN}) {
            due.is("percent " + wrong, x.push(0, wrong, 100, 0), -1);
        }
    }

    private static void squeezes(Due due) {
        // STORED at x is 2 * 100 * x; 200x * 10 * 100 >= 2 * 1000 * (100h + 100x) from x = h on.
        FoamArms x = Due.with("foam f 0:100 95:100 keeps 1 price 1;"
                + "thing c weighs 500 size 1 1 1 mark 1; pad c side 2 f thick 100 area 10;");
        due.is("from 0", x.squeeze(0, 2, 0, 100, 0), 0);
        due.is("from 1", x.squeeze(0, 2, 1, 100, 0), 1);
        due.is("from 2", x.squeeze(0, 2, 2, 100, 0), 2);
        due.is("from 95", x.squeeze(0, 2, 95, 100, 0), 95);
        due.is("from 96", x.squeeze(0, 2, 96, 100, 0), -2);
        due.is("from 30000", x.squeeze(0, 2, 30000, 100, 0), -2);
        due.is("kept 50: the foam bears no more than the weight", x.squeeze(0, 2, 1, 50, 0), -2);
        due.is("kept 50 from 0", x.squeeze(0, 2, 0, 50, 0), 0);
        due.is("kept 200: 1.5 less 0.5", x.squeeze(0, 2, 3, 200, 0), 1);
        due.is("kept 200", x.squeeze(0, 2, 4, 200, 0), 2);
        due.is("kept 0 from 0", x.squeeze(0, 2, 0, 0, 0), 0);
        for (int side = 0; side < 6; side++) {
            due.is("side " + side, x.squeeze(0, side, 0, 100, 0), side == 2 ? 0 : -2);
            due.is("side " + side, x.blow(0, side, 0, 100, 0), side == 2 ? 20 : -2);
        }
        for (int wrong : new int[] {-1, 1, 8, MAX, MIN}) {
            due.is("thing " + wrong, x.squeeze(wrong, 2, 0, 100, 0), -1);
            due.is("thing " + wrong, x.blow(wrong, 2, 0, 100, 0), -1);
        }
        for (int wrong : new int[] {-1, 6, MAX, MIN}) {
            due.is("side " + wrong, x.squeeze(0, wrong, 0, 100, 0), -1);
            due.is("side " + wrong, x.blow(0, wrong, 0, 100, 0), -1);
        }
        for (int wrong : new int[] {-1, 30001, MAX, MIN}) {
            due.is("height " + wrong, x.squeeze(0, 2, wrong, 100, 0), -1);
            due.is("height " + wrong, x.blow(0, 2, wrong, 100, 0), -1);
            due.is("height " + wrong + " without PAD", x.squeeze(0, 1, wrong, 100, 0), -1);
        }
        for (int wrong : new int[] {-1, 201, MAX, MIN}) {
            due.is("kept " + wrong, x.squeeze(0, 2, 0, wrong, 0), -1);
            due.is("kept " + wrong, x.blow(0, 2, 0, wrong, 0), -1);
        }
    }

    private static void blows(Due due) {
        FoamArms x = Due.with("foam f 0:0 50:1000 90:5000 keeps 80 price 4;"
                + "thing c weighs 999 size 1 1 1 mark 700; pad c side 0 f thick 100 area 100;"
                + "foam hard 0:60000 95:60000 keeps 1 price 1;"
                + "thing light weighs 1 size 1 1 1 mark 1; pad light side 0 hard thick 600 area 2000;"
                + "thing heavy weighs 60000 size 1 1 1 mark 1;"
                + "pad heavy side 0 hard thick 600 area 2000; pad heavy side 1 f thick 600 area 2000;");
        due.is("squeeze", x.squeeze(0, 0, 1000, 100, 0), 33);
        due.is("660 * 100 * 10 by 999, cut", x.blow(0, 0, 1000, 100, 0), 660);
        due.is("kept 80", x.blow(0, 0, 1000, 80, 0), 576);
        due.is("from 0", x.blow(0, 0, 0, 100, 0), 0);
        due.is("to its END", x.blow(0, 0, 30000, 100, 0), -2);
        due.is("1200000000", x.blow(1, 0, 0, 100, 0), 1200000000);
        due.is("2000000000 at most", x.blow(1, 0, 30000, 200, 0), 2000000000);
        due.is("just below", x.blow(1, 0, 0, 166, 0), 1992000000);
        due.is("just above", x.blow(1, 0, 0, 167, 0), 2000000000);
        due.is("the heaviest", x.squeeze(2, 0, 30000, 100, 0), 3);
        due.is("its blow", x.blow(2, 0, 30000, 100, 0), 20000);
        // STORED at 50 + d is 50000 + 2000d + 100dd, and must be 200000 + 60x at least.
        due.is("on soft foam", x.squeeze(2, 1, 20000, 100, 0), 81);
        due.is("its blow, 4100 * 20000 by 60000", x.blow(2, 1, 20000, 100, 0), 1366);
        due.is("from the top", x.squeeze(2, 1, 30000, 100, 0), -2);
    }

    private static void asOf(Due due) {
        FoamArms x = new FoamArms();
        x.next(3);
        Due.book(x, "foam f 0:4 9:4 keeps 1 price 1;thing c weighs 1 size 1 1 1 mark 1;"
                + "pad c side 0 f thick 10 area 1;");
        x.next(1);
        Due.book(x, "foam f 0:5 9:5 keeps 1 price 1;");
        due.is("push as of 2", x.push(0, 0, 100, 2), -1);
        due.is("push as of 3", x.push(0, 0, 100, 3), 4);
        due.is("push as of 4", x.push(0, 0, 100, 4), 5);
        due.is("squeeze as of 3", x.squeeze(0, 0, 0, 100, 3), 0);
        due.is("squeeze as of 4", x.squeeze(0, 0, 0, 100, 4), -1);
        due.is("blow as of 3", x.blow(0, 0, 0, 100, 3), 40);
        due.is("blow as of 4", x.blow(0, 0, 0, 100, MAX), -1);
    }
}
