import java.io.IOException;
import java.util.Arrays;

/** Boundary cases of the terms' third part and of promises 15 to 20: heights, PADS, BOXES. */
final class ChoiceEdgesTest {
    private static final int MAX = Edge.MAX;
    private static final int MIN = Edge.MIN;
    private static final int[] WRONG_THINGS = {-1, 1, 8, MAX, MIN};
    private static final int[] WRONG_SIDES = {-1, 6, MAX, MIN};
    /** BLOWS 100x: 0 from 0, 200 from 1, 300 from 2 to 4, ... 1000 from 40 to 49, the END from 50. */
    private static final String RAMP = "foam f 0:0 10:100 keeps 50 price 1;"
            + "thing c weighs 1 size 1 1 1 mark 60000;pad c side 0 f thick 10 area 1;";
    /** Each pushes 100, and HOLDS a weight of 1000 from 0 on an area of 1000. */
    private static final String PACK = "foam dear 0:100 95:100 keeps 1 price 9;"
            + "foam cheap 0:100 95:100 keeps 1 price 1;thing c weighs 1000 size 10 20 30 mark 1000;";
    private static Edge edge;

    public static void main(String[] args) throws IOException {
        edge = new Edge("ChoiceEdgesTest");
        greatestHeight();
        blowsOfHeights();
        kindsThatHold();
        roomForPads();
        costOfPads();
        cheapestPads();
        marginAround();
        someBoxes();
        highest();
        recorded();
        pads();
        padAt();
        boxes();
        boxSet();
        edge.close();
    }

    // ---- heights

    /** It HOLDS up to push - 19: 95 * (push - 19) * 20 by 100 * 19. */
    private static FoamArms pushing(int push, int mark) {
        return Due.with("foam f 0:" + push + " 95:" + push + " keeps 50 price 1;"
                + "thing c weighs 19 size 1 1 1 mark " + mark + ";pad c side 0 f thick 20 area 1;");
    }

    private static void greatestHeight() {
        edge.of("HIGHEST: the greatest height 0 to 30000 from which a THING HOLDS on a side (KEPT 100).");
        int[][] due = {{1, 0}, {18, 0}, {19, 0}, {20, 1}, {21, 2}, {1019, 1000}, {16402, 16383},
            {16403, 16384}, {16404, 16385}, {30017, 29998}, {30018, 29999}, {30019, 30000},
            {30020, 30000}, {60000, 30000}};
        for (int[] d : due) {
            FoamArms x = pushing(d[0], 60000);
            edge.is("highest by a push of " + d[0], x.highest(0, 0, 0), d[1]);
            edge.is("it HOLDS", x.again(0, 0, d[1], 0) > 0, true);
            if (d[1] < 30000) {
                edge.is("one more does not", x.again(0, 0, d[1] + 1, 0), 0);
            }
        }
        edge.is("BLOW 1000, mark 1000", pushing(1900, 1000).highest(0, 0, 0), 1881);
        edge.is("BLOW 1000, mark 999", pushing(1900, 999).highest(0, 0, 0), -1);
        int[][] marks = {{199, 0}, {200, 1}, {299, 1}, {300, 4}, {999, 39}, {1000, 49}, {60000, 49}};
        for (int[] m : marks) {
            FoamArms x = Due.with(RAMP.replace("mark 60000", "mark " + m[0]));
            edge.is("highest by a mark of " + m[0], x.highest(0, 0, 0), m[1]);
        }
        FoamArms x = Due.with(RAMP);
        x.squeeze(0, 0, 49, 200, 0);
        x.again(0, 0, 49, 0);
        edge.is("KEPT 100, whatever was asked ahead", x.highest(0, 0, 0), 49);
    }

    private static void blowsOfHeights() {
        edge.of("RECORDED: a BLOW from a to b: the least, the greatest height from which it is so (not to "
                + "its END).");
        FoamArms x = Due.with(RAMP);
        int[][] due = {{0, 0, 0, 0}, {0, 199, 0, 0}, {0, 200, 0, 1}, {1, 199, -1, -1}, {1, 200, 1, 1},
            {200, 200, 1, 1}, {201, 299, -1, -1}, {201, 300, 2, 4}, {299, 301, 2, 4}, {300, 300, 2, 4},
            {300, 399, 2, 4}, {300, 400, 2, 7}, {301, 400, 5, 7}, {999, 1000, 40, 49},
            {1000, 1000, 40, 49}, {1000, MAX, 40, 49}, {1001, MAX, -1, -1}, {900, 1000, 32, 49},
            {301, 300, -1, -1}, {300, 299, -1, -1}, {-1, 0, 0, 0}, {MIN, MAX, 0, 49},
            {MIN, -1, -1, -1}, {-2, -2, -1, -1}, {-2, -1, -1, -1}, {MAX, MAX, -1, -1},
            {MAX, MIN, -1, -1}, {MIN, MIN, -1, -1}};
        for (int[] d : due) {
            for (int what = 0; what < 2; what++) {
                edge.is("recorded " + d[0] + " to " + d[1] + ", " + what,
                        x.recorded(0, 0, d[0], d[1], 0, what), d[2 + what]);
            }
        }
    }

    private static void highest() {
        edge.of("HIGHEST AS OF t; NONE: it HOLDS from none, or no such ones.");
        FoamArms x = new FoamArms();
        x.next(5);
        Due.book(x, RAMP);
        edge.is("AS OF 4", x.highest(0, 0, 4), -1);
        edge.is("AS OF 5", x.highest(0, 0, 5), 49);
        edge.is("AS OF 6", x.highest(0, 0, 6), 49);
        edge.is("from 0 alone", pushing(19, 10).highest(0, 0, 0), 0);
        edge.is("from none: BLOW 10, mark 9", pushing(19, 9).highest(0, 0, 0), -1);
        edge.is("from none: no PAD", x.highest(0, 5, 5), -1);
        for (int thing : WRONG_THINGS) {
            edge.refused("highest of " + thing, y -> y.highest(thing, 0, 5), -1);
        }
        for (int side : WRONG_SIDES) {
            edge.refused("highest on " + side, y -> y.highest(0, side, 5), -1);
        }
        edge.refused("highest AS OF 4", y -> y.highest(0, 0, 4), -1);
        edge.refused("highest without PAD", y -> y.highest(0, 1, 5), -1);
    }

    private static void recorded() {
        edge.of("RECORDED: the least height (what 0), the greatest (1) up to 30000 AS OF t; NONE: none, or "
                + "not as told.");
        FoamArms x = new FoamArms();
        x.next(5);
        Due.book(x, RAMP);
        edge.is("AS OF 5", x.recorded(0, 0, 300, 300, 5, 0), 2);
        edge.is("AS OF 6", x.recorded(0, 0, 300, 300, 6, 1), 4);
        edge.is("what -1", x.recorded(0, 0, 300, 300, 5, -1), -1);
        edge.is("what 2", x.recorded(0, 0, 300, 300, 5, 2), -1);
        int[][] pushes = {{30018, 29999}, {30019, 30000}, {30020, 30000}, {60000, 30000}};
        for (int[] p : pushes) {
            FoamArms hard = pushing(p[0], 1);
            int blow = p[0] * 10 / 19;
            edge.is("the least", hard.recorded(0, 0, blow, blow, 0, 0), 0);
            edge.is("up to 30000", hard.recorded(0, 0, blow, blow, 0, 1), p[1]);
        }
        // Nothing is STORED up to 1 percent, and up to 2 enough for all heights.
        FoamArms far = Due.with("foam f 0:0 1:0 2:60000 95:60000 keeps 1 price 1;"
                + "thing c weighs 1 size 1 1 1 mark 1;pad c side 0 f thick 600 area 2000;");
        edge.is("from 1 to 30000 one BLOW", far.recorded(0, 0, 1200000000, 1200000000, 0, 0), 1);
        edge.is("from 1 to 30000 one BLOW", far.recorded(0, 0, 1200000000, 1200000000, 0, 1), 30000);
        edge.is("a greater one", far.recorded(0, 0, 1200000001, MAX, 0, 0), -1);
        for (int what : new int[] {-1, 2, MAX, MIN}) {
            edge.refused("what " + what, y -> y.recorded(0, 0, 0, MAX, 5, what), -1);
        }
        for (int thing : WRONG_THINGS) {
            edge.refused("recorded of " + thing, y -> y.recorded(thing, 0, 0, MAX, 5, 0), -1);
        }
        for (int side : WRONG_SIDES) {
            edge.refused("recorded on " + side, y -> y.recorded(0, side, 0, MAX, 5, 1), -1);
        }
        edge.refused("recorded AS OF 4", y -> y.recorded(0, 0, 0, MAX, 4, 0), -1);
        edge.refused("recorded, none", y -> y.recorded(0, 0, 1001, MAX, 5, 0), -1);
        edge.refused("a more than b", y -> y.recorded(0, 0, 1000, 999, 5, 1), -1);
    }

    // ---- PADS

    private static FoamArms packing(String room) {
        return Due.with(PACK + "box b room " + room + " price 1 bears 1;");
    }

    private static int padsOf(FoamArms x, int area, int height, int... kinds) {
        Due.tape(x, kinds);
        return x.pads(0, 0, area, height, 0);
    }

    private static void padsAre(FoamArms x, int... want) {
        for (int side = 0; side < 6; side++) {
            edge.is("padAt(" + side + ")", x.padAt(side), want[side]);
        }
    }

    private static void kindsThatHold() {
        edge.of("PADS for a box: on each side one of some KINDS (10 at most: a FOAM and a THICK), all of "
                + "one AREA, that HOLDS a drop of the THING from a told height on that side (KEPT 100);");
        // A weight of 19 on an area of 1 and a push of 119: from 50 by THICK 10, from 100 by 20.
        FoamArms x = Due.with("foam f 0:119 95:119 keeps 1 price 100;"
                + "thing c weighs 19 size 10 20 30 mark 60000;box b room 60 70 80 price 1 bears 1;");
        edge.is("from 50", padsOf(x, 1, 50, 0, 1), 6);
        edge.is("from 51", padsOf(x, 1, 51, 0, 1), -1);
        edge.is("from 100", padsOf(x, 1, 100, 0, 2), 12);
        edge.is("from 101", padsOf(x, 1, 101, 0, 2), -1);
        edge.is("from 50, the cheaper", padsOf(x, 1, 50, 0, 2, 0, 1), 6);
        padsAre(x, 1, 1, 1, 1, 1, 1);
        edge.is("from 51, the one that HOLDS", padsOf(x, 1, 51, 0, 2, 0, 1), 12);
        padsAre(x, 0, 0, 0, 0, 0, 0);
        edge.is("BLOW 1000, mark 1000", padsOf(packing("99 99 99"), 1000, 0, 1, 1), 60);
        FoamArms soft = Due.with(PACK.replace("mark 1000", "mark 999")
                + "box b room 99 99 99 price 1 bears 1;");
        edge.is("BLOW 1000, mark 999", padsOf(soft, 1000, 0, 1, 1), -1);
        edge.is("by a lesser AREA", padsOf(soft, 999, 0, 1, 1), 54);
        int[] ten = {0, 1, 0, 1, 0, 1, 0, 1, 0, 1, 0, 1, 0, 1, 0, 1, 0, 1, 1, 1};
        FoamArms many = packing("99 99 99");
        edge.is("the tenth KIND", padsOf(many, 1000, 0, ten), 60);
        padsAre(many, 9, 9, 9, 9, 9, 9);
        FoamArms hard = Due.with("foam f 0:100 95:100 keeps 1 price 9;foam g 0:99 95:99 keeps 1 price 9;"
                + "thing c weighs 1000 size 10 20 30 mark 990;box b room 99 99 99 price 1 bears 1;");
        edge.is("BLOW 1000, mark 990", padsOf(hard, 1000, 0, 0, 1), -1);
        edge.is("BLOW 990, mark 990", padsOf(hard, 1000, 0, 1, 1), 540);
        edge.is("either", padsOf(hard, 1000, 0, 0, 1, 1, 2), 1080);
        padsAre(hard, 1, 1, 1, 1, 1, 1);
        FoamArms padded = Due.with(PACK + "pad c side 0 dear thick 10 area 1;"
                + "box b room 99 99 99 price 1 bears 1;");
        padded.squeeze(0, 0, 0, 1, 0);
        edge.is("KEPT 100, whatever was asked ahead", padsOf(padded, 1000, 0, 1, 1), 60);
    }

    private static void roomForPads() {
        edge.of("the two THICKS across a size and that size no more than the BOX's ROOM there;");
        String[] enough = {"30 40 50", "31 41 51", "9999 9999 9999"};
        for (String room : enough) {
            edge.is("10 + 10 in " + room, padsOf(packing(room), 1000, 0, 1, 1), 60);
        }
        String[] small = {"29 40 50", "30 39 50", "30 40 49", "1 1 1", "10 20 30", "50 40 30"};
        for (String room : small) {
            edge.is("10 + 10 in " + room, padsOf(packing(room), 1000, 0, 1, 1), -1);
        }
        // Two thin dear ones across the first size, a thin one and a thick one, two thick ones.
        FoamArms x = packing("39 60 70");
        edge.is("39", padsOf(x, 1000, 0, 0, 1, 1, 2), 2 * 90 + 4 * 20);
        padsAre(x, 0, 0, 1, 1, 1, 1);
        x = packing("40 60 70");
        edge.is("40", padsOf(x, 1000, 0, 0, 1, 1, 2), 90 + 20 + 4 * 20);
        padsAre(x, 0, 1, 1, 1, 1, 1);
        x = packing("49 59 69");
        edge.is("49", padsOf(x, 1000, 0, 0, 1, 1, 2), 3 * 90 + 3 * 20);
        padsAre(x, 0, 1, 0, 1, 0, 1);
        x = packing("50 60 70");
        edge.is("50", padsOf(x, 1000, 0, 0, 1, 1, 2), 6 * 20);
        padsAre(x, 1, 1, 1, 1, 1, 1);
        edge.is("600 + 600", padsOf(packing("1210 1220 1230"), 1000, 0, 1, 60), 3600);
        edge.is("600 + 600", padsOf(packing("1209 1220 1230"), 1000, 0, 1, 60), -1);
    }

    private static void costOfPads() {
        edge.of("a PAD costs price times AREA times THICK by 1000, cut.");
        FoamArms x = packing("9999 9999 9999");
        edge.is("99 * 10 by 1000", padsOf(x, 99, 0, 1, 1), 0);
        edge.is("100 * 10 by 1000", padsOf(x, 100, 0, 1, 1), 6);
        edge.is("199 * 10 by 1000", padsOf(x, 199, 0, 1, 1), 6);
        edge.is("9 * 111 * 10 by 1000", padsOf(x, 111, 0, 0, 1), 54);
        edge.is("9 * 112 * 10 by 1000", padsOf(x, 112, 0, 0, 1), 60);
        FoamArms great = Due.with("foam f 0:1 95:1 keeps 1 price 100;foam g 0:1 95:1 keeps 1 price 0;"
                + "thing c weighs 1000 size 1 1 1 mark 60000;box b room 9999 9999 9999 price 1 bears 1;");
        edge.is("the dearest", padsOf(great, 2000, 0, 0, 60), 6 * 120000);
        edge.is("a free one", padsOf(great, 2000, 0, 1, 60), 0);
    }

    private static void cheapestPads() {
        edge.of("The cheapest six; of like ones the first (side by side the lesser KIND).");
        FoamArms x = packing("99 99 99");
        edge.is("like KINDS", padsOf(x, 1000, 0, 1, 1, 1, 1, 1, 1), 60);
        padsAre(x, 0, 0, 0, 0, 0, 0);
        edge.is("a dearer one ahead", padsOf(x, 1000, 0, 0, 1, 1, 1, 1, 1), 60);
        padsAre(x, 1, 1, 1, 1, 1, 1);
        edge.is("one that costs one more ahead", padsOf(x, 100, 0, 1, 2, 1, 1), 6);
        padsAre(x, 1, 1, 1, 1, 1, 1);
        edge.is("like by the cut", padsOf(x, 99, 0, 1, 1, 1, 1, 0, 1), 0);
        padsAre(x, 0, 0, 0, 0, 0, 0);
        // THICKS 20 and 10 for 0 each by the cut: the first pair that has room is 0, 1.
        x = packing("40 59 69");
        edge.is("side by side", padsOf(x, 49, 0, 1, 2, 1, 1), 0);
        padsAre(x, 0, 1, 0, 1, 0, 1);
        edge.is("the other way", padsOf(x, 49, 0, 1, 1, 1, 2), 0);
        padsAre(x, 0, 0, 0, 0, 0, 0);
    }

    private static void pads() {
        edge.of("PADS of a THING for a BOX AS OF t, the tape's pairs of bytes being KINDS (a FOAM, and THICK "
                + "by ten; 1 to 10 KINDS), AREA 1 to 2000, height 0 to 30000: the cost; NONE: none do; -2: "
                + "not as told.");
        FoamArms x = packing("9999 9999 9999");
        edge.is("1 KIND, THICK 10", padsOf(x, 1000, 0, 1, 1), 60);
        edge.is("THICK 600", padsOf(x, 1000, 0, 1, 60), 3600);
        edge.is("AREA 1", padsOf(x, 1, 0, 1, 60), 0);
        edge.is("AREA 2000, BLOW 2000", padsOf(x, 2000, 0, 1, 60), -1);
        FoamArms free = Due.with("foam f 0:60000 95:60000 keeps 1 price 1;"
                + "thing c weighs 60000 size 1 1 1 mark 60000;box b room 9999 9999 9999 price 1 bears 1;");
        edge.is("AREA 2000, from 30000", padsOf(free, 2000, 30000, 0, 60), 7200);
        edge.is("AREA 1, from 0", padsOf(free, 1, 0, 0, 60), 0);
        edge.is("AREA 1, from 30000", padsOf(free, 1, 30000, 0, 60), -1);
        edge.is("the tape is empty", free.count(2), 0);
        int[] kinds = {0, 1};
        int[] more = new int[22];
        for (int i = 1; i < more.length; i += 2) {
            more[i] = 1;
        }
        edge.refusedOf(more, "11 KINDS", y -> y.pads(0, 0, 50, 1, 5), -2);
        int[][] wrong = {{}, {0}, {0, 1, 0}, {0, 0}, {0, 61}, {0, 255}, {1, 1}, {255, 1},
            {0, 1, 0, 0}, {0, 1, 0, 61}, {0, 1, 1, 1}, Arrays.copyOf(more, 19), Arrays.copyOf(more, 21)};
        for (int[] tape : wrong) {
            edge.refusedOf(tape, "pads of " + Arrays.toString(tape), y -> y.pads(0, 0, 50, 1, 5), -2);
        }
        for (int thing : WRONG_THINGS) {
            edge.refusedOf(kinds, "pads of " + thing, y -> y.pads(thing, 0, 50, 1, 5), -2);
        }
        for (int box : new int[] {-1, 2, 8, MAX, MIN}) {
            edge.refusedOf(kinds, "pads for " + box, y -> y.pads(0, box, 50, 1, 5), -2);
        }
        for (int area : new int[] {0, -1, 2001, MAX, MIN}) {
            edge.refusedOf(kinds, "AREA " + area, y -> y.pads(0, 0, area, 1, 5), -2);
        }
        for (int height : new int[] {-1, 30001, MAX, MIN}) {
            edge.refusedOf(kinds, "height " + height, y -> y.pads(0, 0, 50, height, 5), -2);
        }
        edge.refusedOf(kinds, "AS OF 4", y -> y.pads(0, 0, 50, 1, 4), -2);
        edge.refusedOf(kinds, "none HOLD", y -> y.pads(0, 0, 1, 941, 5), -1);
        edge.refusedOf(new int[] {0, 46}, "no room", y -> y.pads(0, 0, 50, 1, 5), -1);
        FoamArms ten = Edge.lived();
        ten.end(0);
        Due.tape(ten, Arrays.copyOf(more, 20));
        edge.is("10 KINDS", ten.pads(0, 1, 50, 1, 6), 18);
        edge.is("AS OF 6", ten.padAt(0), 0);
    }

    private static void padAt() {
        edge.of("The KIND on a side by the latest pads() that told a cost; NONE: no such side, or ahead of "
                + "any.");
        FoamArms x = packing("30 60 51");
        padsAre(x, -1, -1, -1, -1, -1, -1);
        edge.is("no room", padsOf(x, 1000, 0, 1, 2), -1);
        padsAre(x, -1, -1, -1, -1, -1, -1);
        edge.is("not as told", padsOf(x, 1000, 0, 2, 1), -2);
        padsAre(x, -1, -1, -1, -1, -1, -1);
        edge.is("a cost", padsOf(x, 1000, 0, 1, 2, 0, 1, 1, 1), 60);
        padsAre(x, 2, 2, 2, 2, 2, 2);
        edge.is("a cost of 0 is one", padsOf(x, 49, 0, 1, 2, 1, 1), 0);
        padsAre(x, 1, 1, 0, 0, 1, 1);
        edge.is("no room", padsOf(x, 1000, 0, 1, 2), -1);
        edge.is("not as told", padsOf(x, 1000, 0, 1), -2);
        edge.is("AREA 0", padsOf(x, 0, 0, 1, 1), -2);
        padsAre(x, 1, 1, 0, 0, 1, 1);
        for (int side : WRONG_SIDES) {
            edge.refused("padAt(" + side + ")", y -> y.padAt(side), -1);
        }
        edge.is("padAt(0)", Edge.lived().padAt(0), 1);
        edge.is("padAt(5)", Edge.lived().padAt(5), 1);
    }

    // ---- BOXES

    private static void marginAround() {
        edge.of("KINDS of boxes: a THING with a told margin all around (each size and twice that) goes into "
                + "a BOX in any of the six turns.");
        int[][] turns = {{0, 1, 2}, {0, 2, 1}, {1, 0, 2}, {1, 2, 0}, {2, 0, 1}, {2, 1, 0}};
        int[] room = {14, 24, 34};
        for (int[] t : turns) {
            for (int less = -1; less < 3; less++) {
                int[] r = {room[t[0]], room[t[1]], room[t[2]]};
                if (less >= 0) {
                    r[less]--;
                }
                FoamArms x = Due.with("thing c weighs 1 size 10 20 30 mark 1;box b room " + r[0] + " "
                        + r[1] + " " + r[2] + " price 3 bears 1;");
                edge.is("margin 2 in " + Arrays.toString(r), x.boxes(2, 1, 0), less < 0 ? 3 : -1);
                edge.is("margin 1 in " + Arrays.toString(r), x.boxes(1, 1, 0), 3);
                edge.is("margin 3 in " + Arrays.toString(r), x.boxes(3, 1, 0), -1);
            }
        }
        FoamArms cube = Due.with("thing c weighs 1 size 20 20 20 mark 1;"
                + "box b room 19 99 99 price 3 bears 1;");
        edge.is("one size is too much for it", cube.boxes(0, 8, 0), -1);
        FoamArms great = Due.with("thing c weighs 1 size 5999 5999 5999 mark 1;"
                + "box b room 9999 9999 9999 price 3 bears 1;");
        edge.is("margin 2000", great.boxes(2000, 8, 0), 3);
        great = Due.with("thing c weighs 1 size 5999 6000 5999 mark 1;"
                + "box b room 9999 9999 9999 price 3 bears 1;");
        edge.is("margin 2000, one more", great.boxes(2000, 8, 0), -1);
        edge.is("margin 1999, one more", great.boxes(1999, 8, 0), 3);
    }

    /** THING k and BOX k have a size of k + 1, and greater BOXES are dearer. */
    private static String eight() {
        StringBuilder text = new StringBuilder();
        for (int i = 1; i <= 8; i++) {
            text.append("thing ").append((char) ('j' + i)).append(" weighs 1 size 1 1 ").append(i)
                    .append(" mark 1;");
        }
        for (int i = 1; i <= 8; i++) {
            text.append("box ").append((char) ('a' + i)).append(" room 1 1 ").append(i)
                    .append(" price ").append(i).append(" bears 1;");
        }
        return text.toString();
    }

    private static void boxesAre(FoamArms x, int margin, int most, int cost, int set) {
        edge.is("boxes(" + margin + ", " + most + ")", x.boxes(margin, most, 0), cost);
        edge.is("boxSet of " + margin + ", " + most, x.boxSet(), set);
    }

    private static void someBoxes() {
        edge.of("Some BOXES, as many as told at most, so that each THING goes into one: each takes the "
                + "cheapest of these it goes into; the least sum; of like ones the least set as bits.");
        FoamArms x = Due.with(eight());
        boxesAre(x, 0, 8, 36, 255);
        boxesAre(x, 0, 7, 37, 191);
        boxesAre(x, 0, 1, 64, 128);
        boxesAre(x, 0, 2, 48, 136);
        String like = "thing c weighs 1 size 5 5 5 mark 1;thing d weighs 1 size 9 9 9 mark 1;";
        FoamArms two = Due.with(like + "box a room 9 9 9 price 5 bears 1;"
                + "box b room 9 9 9 price 5 bears 1;box e room 5 5 5 price 5 bears 1;");
        boxesAre(two, 0, 8, 10, 1);
        two = Due.with(like + "box e room 5 5 5 price 5 bears 1;box a room 9 9 9 price 5 bears 1;"
                + "box b room 9 9 9 price 5 bears 1;");
        boxesAre(two, 0, 8, 10, 2);
        two = Due.with(like + "box e room 5 5 5 price 4 bears 1;box a room 9 9 9 price 5 bears 1;"
                + "box b room 9 9 9 price 5 bears 1;");
        boxesAre(two, 0, 8, 9, 3);
        boxesAre(two, 0, 1, 10, 2);
        two = Due.with(like + "box a room 9 9 9 price 7 bears 1;box e room 5 5 5 price 9 bears 1;"
                + "box b room 9 9 9 price 6 bears 1;");
        boxesAre(two, 0, 8, 12, 4);
        two = Due.with(like + "box e room 5 5 5 price 0 bears 1;box b room 9 9 8 price 0 bears 1;");
        edge.is("one goes into none", two.boxes(0, 8, 0), -1);
    }

    private static void boxes() {
        edge.of("KINDS of boxes for all THINGS AS OF t, with a margin (0 to 2000), at most some (1 to 8): "
                + "the cost; NONE: none do; -2: not as told, or no THINGS.");
        FoamArms x = new FoamArms();
        x.next(5);
        Due.book(x, "thing c weighs 1 size 1 1 1 mark 1;box b room 4001 4001 4001 price 10000 bears 1;"
                + "box a room 1 1 1 price 0 bears 1;");
        edge.is("margin 0", x.boxes(0, 1, 5), 0);
        edge.is("margin 1", x.boxes(1, 1, 5), 10000);
        edge.is("margin 2000", x.boxes(2000, 8, 5), 10000);
        edge.is("AS OF 6", x.boxes(2000, 8, 6), 10000);
        edge.is("AS OF 4", x.boxes(0, 8, 4), -2);
        for (int margin : new int[] {-1, 2001, MAX, MIN, 1 << 30}) {
            edge.refused("margin " + margin, y -> y.boxes(margin, 8, 5), -2);
        }
        for (int most : new int[] {0, -1, 9, MAX, MIN}) {
            edge.refused("at most " + most, y -> y.boxes(0, most, 5), -2);
        }
        edge.refused("no THINGS AS OF 4", y -> y.boxes(0, 8, 4), -2);
        edge.refused("margin 36 does not go", y -> y.boxes(36, 8, 5), -1);
        edge.refused("margin 35 does, as told ahead", y -> y.boxes(35, 1, 5), 4);
        edge.is("no BOXES", Due.with(Edge.THING).boxes(0, 8, 0), -1);
        edge.is("no THINGS", Due.with(Edge.BOX).boxes(0, 8, 0), -2);
        edge.is("neither", new FoamArms().boxes(0, 8, 0), -2);
    }

    private static void boxSet() {
        edge.of("The set of the latest boxes() that told a cost, as bits; 0 ahead of any.");
        FoamArms x = new FoamArms();
        edge.is("ahead of any", x.boxSet(), 0);
        edge.is("not as told", x.boxes(0, 8, 0), -2);
        edge.is("ahead of any", x.boxSet(), 0);
        Due.book(x, eight());
        edge.is("none do", x.boxes(1, 8, 0), -1);
        edge.is("ahead of any", x.boxSet(), 0);
        boxesAre(x, 0, 8, 36, 255);
        boxesAre(x, 1, 8, -1, 255);
        boxesAre(x, 0, 9, -2, 255);
        boxesAre(x, 0, 1, 64, 128);
        Due.book(x, "thing c weighs 1 size 1 1 1 mark 1;box b room 1 1 1 price 0 bears 1;");
        edge.is("another BOOK does not change it", x.boxSet(), 128);
        boxesAre(x, 0, 1, 0, 1);
    }
}
