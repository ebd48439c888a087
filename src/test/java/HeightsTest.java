/** Promises 15 and 16: highest, recorded. */
final class HeightsTest {
    private static final int MAX = Integer.MAX_VALUE;
    private static final int MIN = Integer.MIN_VALUE;

    public static void main(String[] args) {
        Due due = new Due("HeightsTest");
        highest(due);
        recorded(due);
        due.close();
    }

    private static FoamArms vase(int mark) {
        return Due.with("foam soft 0:0 50:1000 90:5000 keeps 80 price 4;"
                + "foam hard 0:100 95:100 keeps 1 price 1;"
                + "foam deep 0:0 1:60000 95:60000 keeps 1 price 1;"
                + "thing vase weighs 1000 size 100 200 300 mark " + mark + ";"
                + "pad vase side 0 soft thick 100 area 100;pad vase side 1 hard thick 100 area 100;"
                + "pad vase side 2 deep thick 600 area 2000;");
    }

    private static void highest(Due due) {
        due.is("mark 700", vase(700).highest(0, 0, 0), 1190);
        due.is("mark 600", vase(600).highest(0, 0, 0), 870);
        due.is("up to the END alone", vase(60000).highest(0, 0, 0), 14410);
        due.is("on hard foam", vase(100).highest(0, 1, 0), 855);
        due.is("hard foam is too hard from 0 on", vase(99).highest(0, 1, 0), -1);
        due.is("0 alone", vase(599).highest(0, 2, 0) >= 0, true);
        due.is("no PAD", vase(700).highest(0, 3, 0), -1);
        FoamArms x = Due.with("foam deep 0:0 95:60000 keeps 1 price 1;"
                + "thing c weighs 1 size 1 1 1 mark 60000;pad c side 0 deep thick 10 area 1;"
                + "thing d weighs 60000 size 1 1 1 mark 1;pad d side 5 deep thick 10 area 1;");
        int high = x.highest(0, 0, 0);
        due.is("highest holds", x.blow(0, 0, high, 100, 0) <= 60000, true);
        due.is("one more does not", x.blow(0, 0, high + 1, 100, 0) > 60000, true);
        due.is("a weight on a thin pad", x.highest(1, 5, 0), 0);
        x = Due.with("foam deep 0:0 95:60000 keeps 1 price 1;"
                + "thing c weighs 10 size 1 1 1 mark 60000;pad c side 0 deep thick 600 area 200;"
                + "thing d weighs 100 size 1 1 1 mark 60000;pad d side 0 deep thick 600 area 200;");
        due.is("30000 at most", x.highest(1, 0, 0), 30000);
        due.is("30000 holds", x.blow(1, 0, 30000, 100, 0) <= 60000, true);
        for (int wrong : new int[] {-1, 2, MAX, MIN}) {
            due.is("thing " + wrong, x.highest(wrong, 0, 0), -1);
            due.is("thing " + wrong, x.recorded(wrong, 0, 0, MAX, 0, 0), -1);
        }
        for (int wrong : new int[] {-1, 6, MAX, MIN}) {
            due.is("side " + wrong, x.highest(0, wrong, 0), -1);
            due.is("side " + wrong, x.recorded(0, wrong, 0, MAX, 0, 0), -1);
        }
        due.is("as of yesterday", x.highest(1, 0, -1), -1);
    }

    private static void recorded(Due due) {
        FoamArms x = vase(700);
        due.is("least", x.recorded(0, 0, 660, 680, 0, 0), 993);
        due.is("greatest", x.recorded(0, 0, 660, 680, 0, 1), 1122);
        due.is("least, behind another BLOW", x.recorded(0, 0, 641, 660, 0, 0), 993);
        due.is("the one ahead of the least", x.blow(0, 0, 992, 100, 0) < 660, true);
        due.is("the one behind the greatest", x.blow(0, 0, 1123, 100, 0) > 680, true);
        for (int what = 0; what < 2; what++) {
            due.is("between two BLOWS", x.recorded(0, 0, 661, 679, 0, what), -1);
            due.is("a greater than b", x.recorded(0, 0, 680, 660, 0, what), -1);
            due.is("no PAD", x.recorded(0, 3, 0, MAX, 0, what), -1);
            due.is("0 from 0 alone", x.recorded(0, 0, 0, 0, 0, what), 0);
            due.is("beyond the END", x.recorded(0, 0, 5001, MAX, 0, what), -1);
            due.is("below 0", x.recorded(0, 0, MIN, -1, 0, what), -1);
            due.is("to the END is no BLOW", x.recorded(0, 0, -2, -2, 0, what), -1);
            due.is("all of them", x.recorded(0, 0, MIN, MAX, 0, what), what == 0 ? 0 : 14410);
            due.is("the last one", x.recorded(0, 0, 5000, MAX, 0, what) <= 14410, true);
            due.is("hard foam", x.recorded(0, 1, 100, 100, 0, what), what == 0 ? 0 : 855);
            due.is("hard foam", x.recorded(0, 1, 101, MAX, 0, what), -1);
            due.is("as of yesterday", x.recorded(0, 0, 0, MAX, -1, what), -1);
        }
        due.is("what -1", x.recorded(0, 0, 0, MAX, 0, -1), -1);
        due.is("what 2", x.recorded(0, 0, 0, MAX, 0, 2), -1);
        due.is("30000", x.recorded(0, 2, 0, MAX, 0, 1), 30000);
        due.is("behind 30000", x.recorded(0, 2, 1200001, MAX, 0, 0), -1);
    }
}
