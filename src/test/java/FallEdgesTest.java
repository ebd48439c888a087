import java.io.IOException;

/** Boundary cases of the terms' second part and of promises 8 to 14: what falls on a PAD. */
final class FallEdgesTest {
    private static final int MAX = Edge.MAX;
    private static final int MIN = Edge.MIN;
    /** It pushes 10 a percent, up to 10 percents: STORED is 10xx, and 5xx - x must be 10h. */
    private static final String RAMP = "foam f 0:0 10:100 keeps 100 price 1;"
            + "thing c weighs 1 size 1 1 1 mark 60000;pad c side 0 f thick 10 area 1;";
    /** It pushes 100 up to 95 percents: having KEPT c it HOLDS from 9.5 times c - 1. */
    private static final String FLAT = "foam f 0:100 95:100 keeps 100 price 1;"
            + "thing c weighs 1 size 1 1 1 mark 60000;pad c side 0 f thick 10 area 1;";
    private static final int[] WRONG_THINGS = {-1, 1, 8, MAX, MIN};
    private static final int[] WRONG_SIDES = {-1, 6, MAX, MIN};
    private static final int[] WRONG_HEIGHTS = {-1, 30001, MAX, MIN};
    private static final int[] WRONG_KEPT = {-1, 201, MAX, MIN};
    private static Edge edge;

    public static void main(String[] args) throws IOException {
        edge = new Edge("FallEdgesTest");
        pushAtPercents();
        pushHavingKept();
        storedIsASum();
        leastSqueeze();
        blowIsCut();
        holds();
        withoutPad();
        keptIsCut();
        dropsInOrder();
        spansByHundredths();
        push();
        squeeze();
        blow();
        again();
        breaks();
        breaksAt();
        spans();
        edge.close();
    }

    // ---- terms

    private static void pushAtPercents() {
        edge.of("PUSH of a FOAM at a whole percent x of squeeze: at a POINT its push; between two POINTS "
                + "on the line from one to the other, cut; none behind the last one.");
        FoamArms x = Due.with("foam f 0:10 4:13 8:13 9:60000 keeps 1 price 1;");
        int[] due = {10, 10, 11, 12, 13, 13, 13, 13, 13, 60000};
        for (int percent = 0; percent < due.length; percent++) {
            edge.is("push at " + percent, x.push(0, percent, 100, 0), due[percent]);
        }
        edge.is("behind the last one", x.push(0, 10, 100, 0), -1);
        edge.is("ahead of the first one", x.push(0, -1, 100, 0), -1);
        x = Due.with("foam f 0:0 95:60000 keeps 1 price 1;");
        edge.is("push at 1", x.push(0, 1, 100, 0), 631);
        edge.is("push at 94", x.push(0, 94, 100, 0), 59368);
        edge.is("push at 95", x.push(0, 95, 100, 0), 60000);
        edge.is("push at 96", x.push(0, 96, 100, 0), -1);
    }

    private static void pushHavingKept() {
        edge.of("A FOAM that has KEPT c hundredths pushes PUSH times c by 100, cut.");
        FoamArms x = Due.with("foam f 0:10 4:13 95:60000 keeps 1 price 1;");
        int[][] due = {{0, 0}, {1, 0}, {7, 0}, {8, 1}, {99, 12}, {100, 13}, {107, 13}, {108, 14},
            {199, 25}, {200, 26}};
        for (int[] d : due) {
            edge.is("KEPT " + d[0], x.push(0, 4, d[0], 0), d[1]);
        }
        edge.is("11.5 is cut first", x.push(0, 2, 200, 0), 22);
        edge.is("the greatest", x.push(0, 95, 200, 0), 120000);
    }

    private static void storedIsASum() {
        edge.of("STORED up to x: the sum, for k from 1 to x, of the pushes at k less 1 and at k.");
        // KEPT 62 it pushes 0 6 12 18 24 31 37 43 49 55 62: 612 are STORED, 20h + 20 must be.
        FoamArms x = Due.with(RAMP);
        edge.is("up to the last one", x.squeeze(0, 0, 29, 62, 0), 10);
        edge.is("620 without cuts would do", x.squeeze(0, 0, 30, 62, 0), -2);
        // With a first push of 7 the sum is 7 + 8 up to 1 percent: 150 must be 200h + 20 at least.
        x = Due.with(RAMP.replace("0:0 10:100", "0:7 1:8"));
        edge.is("up to 0 none is STORED", x.squeeze(0, 0, 0, 100, 0), 0);
        edge.is("the sum, not its double", x.squeeze(0, 0, 1, 100, 0), -2);
        x = Due.with(RAMP.replace("0:0 10:100", "0:7 1:15"));
        edge.is("22 is just as much", x.squeeze(0, 0, 1, 100, 0), 1);
        x = Due.with(RAMP.replace("0:0 10:100", "0:7 1:14"));
        edge.is("21 is not", x.squeeze(0, 0, 1, 100, 0), -2);
    }

    private static void leastSqueeze() {
        edge.of("A THING of weight W that falls from a height h on a PAD of THICK T and AREA A squeezes it "
                + "to the least x with STORED * A * T at least 2 * W * (100 * h + x * T); if there is none "
                + "up to the last POINT: to its END.");
        FoamArms x = Due.with(RAMP);
        // The last height of each squeeze, 5xx - x by 10; that of 1 is below 1.
        int[][] last = {{0, 0}, {2, 1}, {3, 4}, {4, 7}, {5, 12}, {6, 17}, {7, 23}, {8, 31}, {9, 39},
            {10, 49}};
        int height = 0;
        for (int[] l : last) {
            while (height <= l[1]) {
                edge.is("squeeze from " + height, x.squeeze(0, 0, height, 100, 0), l[0]);
                height++;
            }
        }
        edge.is("just as much is enough, 5 * 25 - 5 by 12", x.squeeze(0, 0, 12, 100, 0), 5);
        edge.is("to its END", x.squeeze(0, 0, 50, 100, 0), -2);
        edge.is("the greatest height", x.squeeze(0, 0, 30000, 100, 0), -2);
        // A weight of 99 from 1, KEPT c: x times c - 99 must be 990, and x is 95 at most.
        FoamArms flat = Due.with(FLAT.replace("weighs 1 ", "weighs 99 "));
        edge.is("95 * 1 is less", flat.squeeze(0, 0, 1, 100, 0), -2);
        edge.is("95 * 10 is less", flat.squeeze(0, 0, 1, 109, 0), -2);
        edge.is("90 * 11 is just as much", flat.squeeze(0, 0, 1, 110, 0), 90);
        edge.is("83 * 12 is more", flat.squeeze(0, 0, 1, 111, 0), 83);
        FoamArms great = Due.with("foam f 0:60000 95:60000 keeps 1 price 1;"
                + "thing c weighs 60000 size 1 1 1 mark 60000;pad c side 0 f thick 600 area 2000;"
                + "thing d weighs 60000 size 1 1 1 mark 60000;pad d side 0 f thick 10 area 1;");
        edge.is("the greatest numbers", great.squeeze(0, 0, 30000, 200, 0), 2);
        edge.is("no more push than weight", great.squeeze(1, 0, 1, 100, 0), -2);
    }

    private static void blowIsCut() {
        edge.of("BLOW: the push at x times A times 10 by W, cut (2000000000 at most).");
        FoamArms x = Due.with("foam f 0:100 9:100 keeps 1 price 1;"
                + "thing c weighs 3 size 1 1 1 mark 1;pad c side 0 f thick 10 area 1;"
                + "thing d weighs 999 size 1 1 1 mark 1;pad d side 0 f thick 10 area 1;"
                + "thing e weighs 1000 size 1 1 1 mark 1;pad e side 0 f thick 10 area 1;"
                + "thing g weighs 1001 size 1 1 1 mark 1;pad g side 0 f thick 10 area 1;");
        edge.is("1000 by 3", x.blow(0, 0, 0, 100, 0), 333);
        edge.is("1000 by 999", x.blow(1, 0, 0, 100, 0), 1);
        edge.is("1000 by 1000", x.blow(2, 0, 0, 100, 0), 1);
        edge.is("1000 by 1001", x.blow(3, 0, 0, 100, 0), 0);
        int[][] most = {{49999, 1999960000}, {50000, 2000000000}, {50001, 2000000000},
            {60000, 2000000000}};
        for (int[] m : most) {
            FoamArms hard = Due.with("foam f 0:" + m[0] + " 9:60000 keeps 1 price 1;"
                    + "thing c weighs 1 size 1 1 1 mark 1;pad c side 0 f thick 10 area 2000;");
            edge.is("twice " + m[0] + " * 20000", hard.blow(0, 0, 0, 200, 0), m[1]);
            edge.is("half of it", hard.blow(0, 0, 0, 100, 0), m[0] * 20000);
        }
    }

    private static void holds() {
        edge.of("It HOLDS, if it is not to its END, and BLOW is no more than MARK.");
        // From 12 to 5 percents: BLOW 500; from 13: 600; from 49: 1000; from 50 to its END.
        int[][] due = {{499, 12, 0}, {500, 12, 60}, {501, 12, 60}, {500, 13, 0}, {599, 13, 0},
            {600, 13, 60}, {999, 49, 0}, {1000, 49, 60}, {60000, 49, 60}, {60000, 50, 0}};
        for (int[] d : due) {
            FoamArms x = Due.with(RAMP.replace("mark 60000", "mark " + d[0]));
            edge.is("mark " + d[0] + " from " + d[1], x.again(0, 0, d[1], 0), d[2]);
        }
        FoamArms hard = Due.with("foam f 0:6 9:6 keeps 100 price 1;"
                + "thing c weighs 1 size 1 1 1 mark 60000;pad c side 0 f thick 10 area 1000;"
                + "thing d weighs 1 size 1 1 1 mark 59999;pad d side 0 f thick 10 area 1000;");
        edge.is("BLOW 60000, mark 60000", hard.again(0, 0, 0, 0), 60);
        edge.is("BLOW 60000, mark 59999", hard.again(1, 0, 0, 0), 0);
    }

    private static void withoutPad() {
        edge.of("A side without PAD: to its END.");
        for (int padded = 0; padded < 6; padded++) {
            String text = FLAT.replace("side 0", "side " + padded);
            for (int side = 0; side < 6; side++) {
                FoamArms x = Due.with(text + "drop c side " + side + " from 0;");
                boolean has = side == padded;
                edge.is("squeeze on " + side, x.squeeze(0, side, 0, 100, 0), has ? 0 : -2);
                edge.is("blow on " + side, x.blow(0, side, 0, 100, 0), has ? 1000 : -2);
                edge.is("again on " + side, x.again(0, side, 0, 0), has ? 60 : 0);
                edge.is("breaks on " + side, x.breaks(0, 0), has ? -1 : 0);
                edge.is("highest on " + side, x.highest(0, side, 0), has ? 940 : -1);
                edge.is("recorded on " + side, x.recorded(0, side, 0, MAX, 0, 1), has ? 940 : -1);
                Due.tape(x, 1, 200, 1, 200);
                edge.is("spans on " + side, x.spans(0, side, 0, 0), has ? 40000 : 0);
                Due.tape(x, side, 0, 0, 0, 0, 0, 0, 1, 1, 1);
                edge.is("journey on " + side, Due.journey(x, 0, 0), has ? 1000000000000000L : 0);
            }
        }
    }

    private static void keptIsCut() {
        edge.of("KEPT of a side: 100 at first; behind each blow on it (to its END, too) KEPT times 'keeps' "
                + "by 100, cut.");
        // KEPT 100 80 64 51 40: without cuts the fifth, 40.96, would push 409, 402 being enough.
        FoamArms x = Due.with("foam f 0:1000 95:1000 keeps 80 price 1;"
                + "thing c weighs 305 size 1 1 1 mark 60000;pad c side 0 f thick 10 area 1;");
        edge.is("KEPT 41 would do", x.squeeze(0, 0, 3, 41, 0), 88);
        edge.is("KEPT 40 does not", x.squeeze(0, 0, 3, 40, 0), -2);
        edge.is("four times", x.again(0, 0, 3, 0), 4);
        // From 940 a KEPT of 100 alone will do.
        edge.is("100 at first", Due.with(FLAT.replace("keeps 100", "keeps 99")).again(0, 0, 940, 0), 1);
        edge.is("it keeps all", Due.with(FLAT).again(0, 0, 940, 0), 60);
        edge.is("nothing", Due.with(FLAT.replace("keeps 100", "keeps 0")).again(0, 0, 1, 0), 1);
        edge.is("nothing, from 0", Due.with(FLAT.replace("keeps 100", "keeps 0")).again(0, 0, 0, 0), 60);
        edge.is("1 of 100", Due.with(FLAT.replace("keeps 100", "keeps 1")).again(0, 0, 1, 0), 1);
        edge.is("each call begins with 100", x.again(0, 0, 3, 0), 4);
    }

    private static void dropsInOrder() {
        edge.of("DROPS of a THING are done in order, each LINE as many times as told, with what each side "
                + "has KEPT: the first LINE of which one does not HOLD BREAKS it.");
        String two = FLAT.replace("keeps 100", "keeps 99") + "pad c side 1 f thick 10 area 1;"
                + "thing d weighs 1 size 1 1 1 mark 60000;pad d side 0 f thick 10 area 1;";
        // From 741 a KEPT of 79 at least is needed: 22 falls HOLD, the 23rd does not.
        breaksAre(two + "drop c side 0 from 741 times 20;drop c side 0 from 741 times 2;", -1, -1);
        breaksAre(two + "drop c side 0 from 741 times 20;drop c side 0 from 741 times 3;", 1, 3);
        breaksAre(two + "drop c side 0 from 741 times 20;drop c side 1 from 741 times 20;"
                + "drop d side 0 from 741 times 20;drop c side 0 from 741 times 2;", -1, -1);
        breaksAre(two + "drop c side 0 from 741 times 20;drop c side 1 from 741 times 20;"
                + "drop d side 0 from 741 times 20;drop c side 0 from 741 times 3;", 3, 3);
        breaksAre(two + "drop c side 0 from 941;drop c side 1 from 941;", 0, 1);
        breaksAre(two + "drop c side 0 from 940;drop c side 1 from 941;", 1, 1);
        breaksAre(two + "drop d side 1 from 0;drop c side 1 from 941;", 1, 1);
        breaksAre(two + "drop d side 1 from 0;drop d side 0 from 941;", -1, -1);
    }

    private static void breaksAre(String text, int line, int time) {
        FoamArms x = Due.with(text);
        edge.is("breaks by " + text, x.breaks(0, 0), line);
        edge.is("breaksAt by " + text, x.breaksAt(), time);
    }

    private static int spansOf(FoamArms x, int height, int... bytes) {
        Due.tape(x, bytes);
        return x.spans(0, 0, height, 0);
    }

    private static void spansByHundredths() {
        edge.of("SPANS: weights from a to b hundredths of W (each W times that by 100, cut, 1 at least) "
                + "and pushes from c to d hundredths (KEPT), both by whole hundredths: of all of them so "
                + "many HOLD.");
        // A weight of 100 has its hundredths as weights: from 1 those up to 95 of 100 KEPT HOLD.
        FoamArms x = Due.with(FLAT.replace("weighs 1 ", "weighs 100 ").replace("thick 10", "thick 20"));
        edge.is("95 of 100", spansOf(x, 1, 95, 95, 100, 100), 1);
        edge.is("96 of 100", spansOf(x, 1, 96, 96, 100, 100), 0);
        edge.is("96 of 101", spansOf(x, 1, 96, 96, 101, 101), 0);
        edge.is("96 of 102", spansOf(x, 1, 96, 96, 102, 102), 1);
        edge.is("95, 96 of 99, 100", spansOf(x, 1, 95, 96, 99, 100), 1);
        edge.is("94, 95 of 99, 100", spansOf(x, 1, 94, 95, 99, 100), 3);
        edge.is("all of 100", spansOf(x, 1, 1, 200, 100, 100), 95);
        int all = 0;
        for (int kept = 1; kept <= 200; kept++) {
            all += 19 * kept / 20;
        }
        edge.is("all", spansOf(x, 1, 1, 200, 1, 200), all);
        x = Due.with(FLAT.replace("weighs 1 ", "weighs 100 ").replace("mark 60000", "mark 10"));
        edge.is("a BLOW of 11", spansOf(x, 0, 90, 90, 100, 100), 0);
        edge.is("a BLOW of 10, cut", spansOf(x, 0, 91, 91, 100, 100), 1);
        x = Due.with(FLAT.replace("mark 60000", "mark 999"));
        edge.is("1 at least, cut to 1 up to 199", spansOf(x, 0, 1, 199, 100, 100), 0);
        edge.is("2 with 200", spansOf(x, 0, 199, 200, 100, 100), 1);
        x = Due.with(FLAT.replace("mark 60000", "mark 1000"));
        edge.is("each has a weight", spansOf(x, 0, 1, 200, 100, 100), 200);
        edge.is("a push of 101", spansOf(x, 0, 1, 200, 101, 101), 1);
        x = Due.with(FLAT.replace("weighs 1 ", "weighs 3 ").replace("mark 60000", "mark 500"));
        edge.is("3 by 66 hundredths is 1", spansOf(x, 0, 66, 66, 100, 100), 0);
        edge.is("3 by 67 hundredths is 2", spansOf(x, 0, 67, 67, 100, 100), 1);
        x = Due.with("foam f 0:60000 95:60000 keeps 1 price 1;"
                + "thing c weighs 60000 size 1 1 1 mark 10000;pad c side 0 f thick 600 area 1000;");
        edge.is("120000 grams and 1200 grams' push", spansOf(x, 0, 200, 200, 200, 200), 1);
        edge.is("60000 grams", spansOf(x, 0, 100, 100, 100, 101), 1);
    }

    // ---- promises

    private static void push() {
        edge.of("PUSH of a FOAM at a percent, having KEPT c (0 to 200), AS OF t; NONE: no such one, or "
                + "behind its last POINT.");
        FoamArms x = new FoamArms();
        x.next(5);
        Due.book(x, FLAT.replace("95:100", "94:100"));
        edge.is("KEPT 0", x.push(0, 94, 0, 5), 0);
        edge.is("KEPT 1", x.push(0, 94, 1, 5), 1);
        edge.is("KEPT 200", x.push(0, 94, 200, 5), 200);
        edge.is("percent 0", x.push(0, 0, 100, 5), 100);
        edge.is("AS OF 4", x.push(0, 0, 100, 4), -1);
        edge.is("AS OF 6", x.push(0, 0, 100, 6), 100);
        for (int c : WRONG_KEPT) {
            edge.refused("push KEPT " + c, y -> y.push(0, 0, c, 5), -1);
        }
        for (int foam : WRONG_THINGS) {
            edge.refused("push of " + foam, y -> y.push(foam, 0, 100, 5), -1);
        }
        for (int percent : new int[] {-1, 96, 100, MAX, MIN}) {
            edge.refused("push at " + percent, y -> y.push(0, percent, 100, 5), -1);
        }
        edge.is("percent 95", x.push(0, 95, 100, 5), -1);
        edge.refused("push AS OF 4", y -> y.push(0, 0, 100, 4), -1);
    }

    private static void squeeze() {
        edge.of("Squeeze of a drop of a THING on a side from a height (0 to 30000), the foam having KEPT c "
                + "(0 to 200), AS OF t; -2: to its END; NONE: no such ones.");
        FoamArms x = new FoamArms();
        x.next(5);
        // A push of 60000: 1200000x must be 200h + 20x at least.
        Due.book(x, FLAT.replace("0:100 95:100", "0:60000 95:60000"));
        edge.is("from 0", x.squeeze(0, 0, 0, 100, 5), 0);
        edge.is("from 1", x.squeeze(0, 0, 1, 100, 5), 1);
        edge.is("from 30000", x.squeeze(0, 0, 30000, 100, 5), 6);
        edge.is("from 30000, KEPT 200", x.squeeze(0, 0, 30000, 200, 5), 3);
        edge.is("from 30000, KEPT 1", x.squeeze(0, 0, 30000, 1, 5), -2);
        edge.is("from 1, KEPT 0", x.squeeze(0, 0, 1, 0, 5), -2);
        edge.is("from 0, KEPT 0", x.squeeze(0, 0, 0, 0, 5), 0);
        edge.is("on 5", x.squeeze(0, 5, 0, 100, 5), -2);
        edge.is("AS OF 6", x.squeeze(0, 0, 1, 100, 6), 1);
        for (int thing : WRONG_THINGS) {
            edge.refused("squeeze of " + thing, y -> y.squeeze(thing, 0, 0, 100, 5), -1);
        }
        for (int side : WRONG_SIDES) {
            edge.refused("squeeze on " + side, y -> y.squeeze(0, side, 0, 100, 5), -1);
        }
        for (int height : WRONG_HEIGHTS) {
            edge.refused("squeeze from " + height, y -> y.squeeze(0, 0, height, 100, 5), -1);
            edge.refused("without PAD", y -> y.squeeze(0, 1, height, 100, 5), -1);
        }
        for (int c : WRONG_KEPT) {
            edge.refused("squeeze KEPT " + c, y -> y.squeeze(0, 0, 0, c, 5), -1);
            edge.refused("without PAD", y -> y.squeeze(0, 1, 0, c, 5), -1);
        }
        edge.refused("squeeze AS OF 4", y -> y.squeeze(0, 0, 0, 100, 4), -1);
        edge.refused("squeeze to its END", y -> y.squeeze(0, 0, 941, 100, 5), -2);
        edge.refused("squeeze KEPT 200", y -> y.squeeze(0, 0, 941, 200, 5), 48);
    }

    private static void blow() {
        edge.of("BLOW of that; -2, NONE likewise.");
        FoamArms x = new FoamArms();
        x.next(5);
        Due.book(x, FLAT);
        edge.is("from 0", x.blow(0, 0, 0, 100, 5), 1000);
        edge.is("from 940", x.blow(0, 0, 940, 100, 5), 1000);
        edge.is("from 941", x.blow(0, 0, 941, 100, 5), -2);
        edge.is("from 30000", x.blow(0, 0, 30000, 200, 5), -2);
        edge.is("KEPT 0", x.blow(0, 0, 0, 0, 5), 0);
        edge.is("KEPT 200", x.blow(0, 0, 0, 200, 5), 2000);
        edge.is("AS OF 6", x.blow(0, 0, 0, 100, 6), 1000);
        for (int thing : WRONG_THINGS) {
            edge.refused("blow of " + thing, y -> y.blow(thing, 0, 0, 100, 5), -1);
        }
        for (int side : WRONG_SIDES) {
            edge.refused("blow on " + side, y -> y.blow(0, side, 0, 100, 5), -1);
        }
        for (int height : WRONG_HEIGHTS) {
            edge.refused("blow from " + height, y -> y.blow(0, 0, height, 100, 5), -1);
            edge.refused("without PAD", y -> y.blow(0, 1, height, 100, 5), -1);
        }
        for (int c : WRONG_KEPT) {
            edge.refused("blow KEPT " + c, y -> y.blow(0, 0, 0, c, 5), -1);
            edge.refused("without PAD", y -> y.blow(0, 1, 0, c, 5), -1);
        }
        edge.refused("blow AS OF 4", y -> y.blow(0, 0, 0, 100, 4), -1);
        edge.refused("blow to its END", y -> y.blow(0, 0, 941, 100, 5), -2);
    }

    private static void again() {
        edge.of("How often a THING HOLDS, dropped again and again on one side from a height AS OF t (60 at "
                + "most); NONE: no such ones.");
        FoamArms x = new FoamArms();
        x.next(5);
        Due.book(x, FLAT.replace("keeps 100", "keeps 99"));
        // KEPT is one less each time: 42, 41, 40 at least let it HOLD 59, 60, 61 times.
        edge.is("59 times", x.again(0, 0, 389, 5), 59);
        edge.is("59 times", x.again(0, 0, 381, 5), 59);
        edge.is("60 times", x.again(0, 0, 380, 5), 60);
        edge.is("not 61 times", x.again(0, 0, 370, 5), 60);
        edge.is("from 0", x.again(0, 0, 0, 5), 60);
        edge.is("once", x.again(0, 0, 940, 5), 1);
        edge.is("never", x.again(0, 0, 941, 5), 0);
        edge.is("never, from 30000", x.again(0, 0, 30000, 5), 0);
        edge.is("AS OF 6", x.again(0, 0, 940, 6), 1);
        for (int thing : WRONG_THINGS) {
            edge.refused("again of " + thing, y -> y.again(thing, 0, 0, 5), -1);
        }
        for (int side : WRONG_SIDES) {
            edge.refused("again on " + side, y -> y.again(0, side, 0, 5), -1);
        }
        for (int height : WRONG_HEIGHTS) {
            edge.refused("again from " + height, y -> y.again(0, 0, height, 5), -1);
        }
        edge.refused("again AS OF 4", y -> y.again(0, 0, 0, 4), -1);
        edge.refused("again leaves the foam", y -> y.again(0, 0, 1, 5), 1);
    }

    private static void breaks() {
        edge.of("The LINE of DROPS (0 the first of all THINGS) that BREAKS a THING AS OF t; NONE: none "
                + "does; -2: no such one.");
        String two = FLAT + "thing d weighs 1 size 1 1 1 mark 60000;pad d side 0 f thick 10 area 1;";
        FoamArms x = new FoamArms();
        x.next(5);
        Due.book(x, two + "drop d side 0 from 940;drop c side 0 from 940;drop c side 0 from 941;"
                + "drop d side 0 from 941;");
        edge.is("THING 0", x.breaks(0, 5), 2);
        edge.is("THING 1", x.breaks(1, 6), 3);
        x.next(1);
        Due.book(x, two + "drop c side 0 from 941;drop d side 0 from 940;");
        edge.is("the first of all", x.breaks(0, 6), 0);
        edge.is("none does", x.breaks(1, 6), -1);
        edge.is("as of the day ahead", x.breaks(1, 5), 3);
        edge.is("without DROPS", Due.with(two).breaks(0, 0), -1);
        for (int thing : WRONG_THINGS) {
            edge.refused("breaks of " + thing, y -> y.breaks(thing, 5), -2);
        }
        edge.refused("breaks AS OF 4", y -> y.breaks(0, 4), -2);
    }

    private static void breaksAt() {
        edge.of("Which time of that LINE, by the latest breaks() that told one (1 the first); NONE ahead "
                + "of any.");
        FoamArms x = new FoamArms();
        edge.is("ahead of any", x.breaksAt(), -1);
        String pad = FLAT.replace("keeps 100", "keeps 99");
        Due.book(x, pad + "drop c side 0 from 940;");
        edge.is("no such one", x.breaks(1, 0), -2);
        edge.is("still ahead of any", x.breaksAt(), -1);
        edge.is("none does", x.breaks(0, 0), -1);
        edge.is("still ahead of any", x.breaksAt(), -1);
        int[][] due = {{941, 1}, {940, 2}, {932, 2}, {931, 3}, {760, 20}};
        int day = 0;
        for (int[] d : due) {
            day = x.next(1);
            // A second LINE breaks where the first one's 20 times do not.
            Due.book(x, pad + "drop c side 0 from " + d[0] + " times 20;drop c side 1 from 0;");
            edge.is("breaks from " + d[0], x.breaks(0, day), d[1] == 20 ? 1 : 0);
            edge.is("breaksAt from " + d[0], x.breaksAt(), d[1] == 20 ? 1 : d[1]);
        }
        edge.is("once more, an older one", x.breaks(0, day - 1), 0);
        edge.is("the latest", x.breaksAt(), 3);
        edge.is("one that tells none", x.breaks(0, 0), -1);
        edge.is("the latest that told one", x.breaksAt(), 3);
        edge.is("no such one", x.breaks(-1, day), -2);
        edge.is("the latest that told one", x.breaksAt(), 3);
        x.next(1);
        Due.book(x, pad + "drop c side 0 from 751 times 19;drop c side 0 from 761 times 20;");
        edge.is("behind 19 that HOLD", x.breaks(0, 999), 1);
        edge.is("the first of the second LINE", x.breaksAt(), 1);
        x.next(1);
        Due.book(x, pad + "drop c side 0 from 761 times 20;");
        edge.is("20 times", x.breaks(0, 999), 0);
        edge.is("the 20th", x.breaksAt(), 20);
    }

    private static void spans() {
        edge.of("SPANS, for the tape's four bytes a, b, c, d (1 to 200, a no more than b, c no more than "
                + "d): how many HOLD, dropped from a height; NONE: not as told.");
        FoamArms x = Due.with(FLAT);
        edge.is("1 to 200, 1 to 200", spansOf(x, 0, 1, 200, 1, 200), 40000);
        edge.is("1, 1, 1, 1", spansOf(x, 0, 1, 1, 1, 1), 1);
        edge.is("200, 200, 200, 200", spansOf(x, 0, 200, 200, 200, 200), 1);
        edge.is("1, 2, 200, 200", spansOf(x, 0, 1, 2, 200, 200), 2);
        edge.is("199, 200, 1, 3", spansOf(x, 0, 199, 200, 1, 3), 6);
        edge.is("from 940", spansOf(x, 940, 100, 100, 100, 100), 1);
        edge.is("from 941", spansOf(x, 941, 100, 100, 100, 100), 0);
        edge.is("from 30000", spansOf(x, 30000, 1, 200, 1, 200), 0);
        edge.is("the tape is empty", x.count(2), 0);
        int[][] wrong = {{}, {1}, {1, 1}, {1, 1, 1}, {1, 1, 1, 1, 1}, new int[20],
            {0, 1, 1, 1}, {0, 0, 1, 1}, {1, 201, 1, 1}, {201, 201, 1, 1}, {255, 255, 1, 1},
            {1, 1, 0, 1}, {1, 1, 0, 0}, {1, 1, 1, 201}, {1, 1, 201, 201}, {1, 1, 255, 255},
            {2, 1, 1, 1}, {200, 199, 1, 1}, {1, 1, 2, 1}, {1, 1, 200, 199}};
        for (int[] tape : wrong) {
            edge.refusedOf(tape, "spans of " + java.util.Arrays.toString(tape),
                    y -> y.spans(0, 0, 0, 5), -1);
        }
        int[] good = {1, 1, 1, 1};
        edge.refusedOf(good, "as told", y -> y.spans(0, 0, 0, 5), 1);
        for (int thing : WRONG_THINGS) {
            edge.refusedOf(good, "spans of " + thing, y -> y.spans(thing, 0, 0, 5), -1);
        }
        for (int side : WRONG_SIDES) {
            edge.refusedOf(good, "spans on " + side, y -> y.spans(0, side, 0, 5), -1);
        }
        for (int height : WRONG_HEIGHTS) {
            edge.refusedOf(good, "spans from " + height, y -> y.spans(0, 0, height, 5), -1);
        }
        edge.refusedOf(good, "spans AS OF 4", y -> y.spans(0, 0, 0, 4), -1);
    }
}
