/** Promises 11 to 14: again, breaks, breaksAt, spans. */
final class DropsTest {
    private static final int MAX = Integer.MAX_VALUE;
    private static final int MIN = Integer.MIN_VALUE;
    private static final String VASE = "foam soft 0:0 50:1000 90:5000 keeps 80 price 4;"
            + "foam firm 0:0 50:1000 90:5000 keeps 100 price 4;"
            + "foam once 0:0 50:1000 90:5000 keeps 0 price 4;"
            + "thing vase weighs 1000 size 100 200 300 mark 700;"
            + "pad vase side 0 soft thick 100 area 100;pad vase side 1 firm thick 100 area 100;"
            + "pad vase side 2 once thick 100 area 100;";

    public static void main(String[] args) {
        Due due = new Due("DropsTest");
        again(due);
        breaks(due);
        spans(due);
        spansNotAsTold(due);
        due.close();
    }

    private static void again(Due due) {
        FoamArms x = Due.with(VASE);
        // By blow() of what has been KEPT: 100, 80, 64, 51, 40, 32, 25 ...
        int kept = 100;
        int held = 0;
        while (held < 60) {
            int blow = x.blow(0, 0, 1000, kept, 0);
            if (blow == -2 || blow > 700) {
                break;
            }
            held++;
            kept = kept * 80 / 100;
        }
        due.is("again on soft", x.again(0, 0, 1000, 0), held);
        due.is("some, but not all", held > 2 && held < 60, true);
        due.is("60 at most", x.again(0, 1, 1000, 0), 60);
        due.is("it keeps nothing", x.again(0, 2, 1000, 0), 1);
        due.is("from 0 it always holds", x.again(0, 2, 0, 0), 60);
        due.is("the first breaks it", x.again(0, 0, 1191, 0), 0);
        due.is("though a later one would hold", x.blow(0, 0, 1191, 80, 0) <= 700, true);
        due.is("no PAD", x.again(0, 3, 0, 0), 0);
        for (int wrong : new int[] {-1, 1, MAX, MIN}) {
            due.is("thing " + wrong, x.again(wrong, 0, 0, 0), -1);
        }
        for (int wrong : new int[] {-1, 6, MAX, MIN}) {
            due.is("side " + wrong, x.again(0, wrong, 0, 0), -1);
        }
        for (int wrong : new int[] {-1, 30001, MAX, MIN}) {
            due.is("height " + wrong, x.again(0, 0, wrong, 0), -1);
        }
        due.is("as of yesterday", x.again(0, 0, 0, -1), -1);
    }

    private static void breaks(Due due) {
        FoamArms x = new FoamArms();
        due.is("no THING", x.breaks(0, 0), -2);
        due.is("breaksAt ahead of any", x.breaksAt(), -1);
        String other = "thing pot weighs 1 size 1 1 1 mark 60000;pad pot side 0 firm thick 10 area 1;";
        Due.book(x, VASE + other + "drop vase side 2 from 1000;drop pot side 0 from 0 times 20;"
                + "drop vase side 0 from 900 times 2;drop vase side 2 from 0 times 3;"
                + "drop vase side 2 from 1;drop vase side 3 from 0;");
        due.is("side 2 kept nothing", x.breaks(0, 0), 4);
        due.is("at its first", x.breaksAt(), 1);
        due.is("the pot stands", x.breaks(1, 0), -1);
        due.is("breaksAt stays", x.breaksAt(), 1);
        Due.book(x, VASE + "drop vase side 1 from 1000 times 20;drop vase side 0 from 1000;"
                + "drop vase side 2 from 1000 times 20;");
        due.is("at the second time", x.breaks(0, 0), 2);
        due.is("at the second time", x.breaksAt(), 2);
        due.is("no such THING", x.breaks(1, 0), -2);
        due.is("no such THING", x.breaks(-1, 0), -2);
        due.is("no such THING", x.breaks(MAX, 0), -2);
        due.is("no such THING", x.breaks(MIN, 0), -2);
        due.is("as of yesterday", x.breaks(0, -1), -2);
        due.is("breaksAt stays", x.breaksAt(), 2);
        Due.book(x, VASE);
        due.is("no DROPS", x.breaks(0, 0), -1);
        int held = x.again(0, 0, 1000, 0);
        Due.book(x, VASE + "drop vase side 0 from 1000 times 2;drop vase side 1 from 1000;"
                + "drop vase side 0 from 1000 times 20;");
        due.is("goes on with what is KEPT", x.breaks(0, 0), 2);
        due.is("goes on with what is KEPT", x.breaksAt(), held - 1);
        Due.book(x, VASE + "drop vase side 0 from 1191;drop vase side 0 from 0 times 3;");
        due.is("the first of two", x.breaks(0, 0), 0);
        due.is("the first of two", x.breaksAt(), 1);
        Due.book(x, VASE + "drop vase side 5 from 0;");
        due.is("no PAD", x.breaks(0, 0), 0);
    }

    private static int spansOf(FoamArms x, int height, int... bytes) {
        Due.tape(x, bytes);
        return x.spans(0, 0, height, 0);
    }

    private static void spans(Due due) {
        FoamArms x = Due.with(VASE);
        due.is("one", spansOf(x, 1000, 100, 100, 100, 100), 1);
        due.is("the tape is empty", x.count(2), 0);
        due.is("none", spansOf(x, 1191, 100, 100, 100, 100), 0);
        due.is("all from 0", spansOf(x, 0, 1, 200, 1, 200), 40000);
        due.is("all from 0, one span", spansOf(x, 0, 1, 200, 200, 200), 200);
        due.is("none from the top", spansOf(x, 30000, 1, 200, 1, 200) < 40000, true);
        // THINGS of all those weights, one by one.
        int sum = 0;
        for (int share = 60; share <= 140; share++) {
            FoamArms one = Due.with(VASE.replace("weighs 1000", "weighs " + 1000 * share / 100));
            for (int kept = 50; kept <= 130; kept++) {
                int blow = one.blow(0, 0, 1000, kept, 0);
                sum += blow != -2 && blow <= 700 ? 1 : 0;
            }
        }
        due.is("81 by 81", spansOf(x, 1000, 60, 140, 50, 130), sum);
        due.is("not all, not none", sum > 100 && sum < 6400, true);
        FoamArms light = Due.with("foam f 0:0 1:1 95:95 keeps 1 price 1;"
                + "thing c weighs 1 size 1 1 1 mark 9; pad c side 0 f thick 100 area 1;"
                + "thing d weighs 3 size 1 1 1 mark 9; pad d side 0 f thick 100 area 1;");
        due.is("weights 1 at least", spansOf(light, 0, 1, 99, 100, 100), 99);
        due.is("cut to 1 to 199", spansOf(light, 1, 1, 199, 100, 100),
                light.blow(0, 0, 1, 100, 0) <= 9 ? 199 : 0);
        FoamArms hard = Due.with("foam f 0:1 95:95 keeps 1 price 1;"
                + "thing c weighs 1 size 1 1 1 mark 9; pad c side 0 f thick 100 area 1;");
        due.is("a weight of 1 is hit by 10", spansOf(hard, 0, 1, 199, 100, 100), 0);
        due.is("a weight of 2 by 5", spansOf(hard, 0, 199, 200, 100, 100), 1);
        Due.tape(light, 67, 99, 100, 100);
        int two = Due.with("foam f 0:0 1:1 95:95 keeps 1 price 1;"
                + "thing c weighs 2 size 1 1 1 mark 9; pad c side 0 f thick 100 area 1;")
                .blow(0, 0, 1, 100, 0);
        due.is("3 by 67 to 99 hundredths is 2", light.spans(1, 0, 1, 0), two <= 9 ? 33 : 0);
    }

    private static void spansNotAsTold(Due due) {
        FoamArms x = Due.with(VASE);
        int[][] wrong = {{}, {100, 100, 100}, {100, 100, 100, 100, 100}, {0, 100, 100, 100},
            {100, 201, 100, 100}, {100, 100, 0, 100}, {100, 100, 100, 201}, {101, 100, 100, 100},
            {100, 100, 101, 100}, {255, 255, 100, 100}, {100, 100, 255, 255}};
        for (int[] bytes : wrong) {
            due.is("spans of " + java.util.Arrays.toString(bytes), spansOf(x, 0, bytes), -1);
            due.is("the tape is empty", x.count(2), 0);
        }
        due.is("height -1", spansOf(x, -1, 1, 1, 1, 1), -1);
        due.is("height 30001", spansOf(x, 30001, 1, 1, 1, 1), -1);
        due.is("height 30000", spansOf(x, 30000, 200, 200, 1, 1), 0);
        Due.tape(x, 1, 1, 1, 1);
        due.is("thing 1", x.spans(1, 0, 0, 0), -1);
        due.is("the tape is empty", x.count(2), 0);
        Due.tape(x, 1, 1, 1, 1);
        due.is("thing -1", x.spans(-1, 0, 0, 0), -1);
        Due.tape(x, 1, 1, 1, 1);
        due.is("side 6", x.spans(0, 6, 0, 0), -1);
        Due.tape(x, 1, 1, 1, 1);
        due.is("side -1", x.spans(0, -1, 0, 0), -1);
        Due.tape(x, 1, 1, 1, 1);
        due.is("as of yesterday", x.spans(0, 0, 0, -1), -1);
        Due.tape(x, 1, 2, 1, 2);
        due.is("no PAD", x.spans(0, 3, 0, 0), 0);
    }
}
