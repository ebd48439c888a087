/** Promises 17 to 20: pads, padAt, boxes, boxSet. */
final class ChoiceTest {
    private static final int MAX = Integer.MAX_VALUE;
    private static final int MIN = Integer.MIN_VALUE;
    private static final String PACK = "foam dear 0:0 50:1000 90:5000 keeps 80 price 8;"
            + "foam cheap 0:0 50:1000 90:5000 keeps 80 price 4;foam free 0:0 1:0 keeps 1 price 0;"
            + "thing vase weighs 1000 size 100 200 300 mark 700;"
            + "box a room 300 400 500 price 1 bears 1;box b room 300 399 500 price 1 bears 1;"
            + "box c room 250 400 500 price 1 bears 1;";

    public static void main(String[] args) {
        Due due = new Due("ChoiceTest");
        pads(due);
        padsNotAsTold(due);
        boxes(due);
        boxesNotAsTold(due);
        due.close();
    }

    private static int padsOf(FoamArms x, int box, int area, int height, int... kinds) {
        Due.tape(x, kinds);
        return x.pads(0, box, area, height, 0);
    }

    private static void padsAt(Due due, FoamArms x, int... want) {
        for (int side = 0; side < 6; side++) {
            due.is("padAt(" + side + ")", x.padAt(side), want[side]);
        }
        due.is("padAt(-1)", x.padAt(-1), -1);
        due.is("padAt(6)", x.padAt(6), -1);
        due.is("padAt(max)", x.padAt(MAX), -1);
        due.is("padAt(min)", x.padAt(MIN), -1);
    }

    private static void pads(Due due) {
        FoamArms x = Due.with(PACK);
        due.is("does not HOLD", padsOf(x, 0, 100, 1000, 0, 5), -1);
        due.is("the tape is empty", x.count(2), 0);
        padsAt(due, x, -1, -1, -1, -1, -1, -1);
        due.is("six of one kind", padsOf(x, 0, 100, 1000, 0, 10), 480);
        padsAt(due, x, 0, 0, 0, 0, 0, 0);
        due.is("the cheaper", padsOf(x, 0, 100, 1000, 2, 10, 0, 10, 1, 10), 240);
        padsAt(due, x, 2, 2, 2, 2, 2, 2);
        due.is("the room is too small", padsOf(x, 1, 100, 1000, 1, 10), -1);
        padsAt(due, x, 2, 2, 2, 2, 2, 2);
        due.is("the lesser of like ones", padsOf(x, 0, 100, 1000, 0, 10, 1, 10, 1, 10), 240);
        padsAt(due, x, 1, 1, 1, 1, 1, 1);
        due.is("from lower, thinner", padsOf(x, 0, 100, 100, 1, 10, 1, 5), 120);
        padsAt(due, x, 1, 1, 1, 1, 1, 1);
        // Across the first size of c are 150 for two: 10 + 5 or 5 + 10 of the dear and the cheap.
        due.is("a mixed pair", padsOf(x, 2, 100, 100, 1, 10, 0, 5), 40 + 40 + 4 * 40);
        padsAt(due, x, 0, 1, 0, 0, 0, 0);
        due.is("a mixed pair, turned", padsOf(x, 2, 100, 100, 0, 5, 1, 10), 240);
        padsAt(due, x, 0, 0, 0, 0, 0, 0);
        due.is("costs are cut each", padsOf(x, 0, 33, 10, 1, 10), 6 * 13);
        due.is("from 0 the free one", padsOf(x, 0, 1, 0, 1, 10, 2, 10), 0);
        due.is("of like ones the first", x.padAt(0), 0);
        due.is("ten kinds", padsOf(x, 0, 100, 1000, 0, 1, 0, 2, 0, 3, 0, 4, 0, 5, 0, 10, 1, 1, 1, 2,
                1, 3, 1, 10), 240);
        padsAt(due, x, 9, 9, 9, 9, 9, 9);
        FoamArms thick = Due.with("foam f 0:60000 95:60000 keeps 1 price 100;"
                + "thing t weighs 60000 size 1 1 1 mark 60000;box b room 1201 9999 9999 price 1 bears 1;");
        due.is("thick 600, area 2000", padsOf(thick, 0, 2000, 30000, 0, 60), 720000);
    }

    private static void padsNotAsTold(Due due) {
        FoamArms x = Due.with(PACK);
        int[][] wrong = {{}, {1}, {1, 10, 1}, {3, 10}, {255, 10}, {1, 0}, {1, 61}, {1, 255},
            {1, 10, 3, 10}, {1, 10, 1, 61}, new int[22], new int[40]};
        for (int[] kinds : wrong) {
            for (int i = 1; kinds.length > 20 && i < kinds.length; i += 2) {
                kinds[i] = 10;
            }
            due.is("kinds " + java.util.Arrays.toString(kinds), padsOf(x, 0, 100, 100, kinds), -2);
            due.is("the tape is empty", x.count(2), 0);
        }
        due.is("thick 600", padsOf(x, 0, 100, 0, 1, 60), -1);
        due.is("area 0", padsOf(x, 0, 0, 100, 1, 10), -2);
        due.is("area -1", padsOf(x, 0, MIN, 100, 1, 10), -2);
        due.is("area 1", padsOf(x, 0, 1, 0, 1, 10), 0);
        due.is("area 2000", padsOf(x, 0, 2000, 0, 1, 10), 4800);
        due.is("area 2001", padsOf(x, 0, 2001, 0, 1, 10), -2);
        due.is("height -1", padsOf(x, 0, 100, -1, 1, 10), -2);
        due.is("height 30001", padsOf(x, 0, 100, 30001, 1, 10), -2);
        due.is("height 30000", padsOf(x, 0, 100, 30000, 1, 10), -1);
        due.is("box 3", padsOf(x, 3, 100, 100, 1, 10), -2);
        due.is("box -1", padsOf(x, -1, 100, 100, 1, 10), -2);
        for (int thing : new int[] {-1, 1, MAX, MIN}) {
            Due.tape(x, 1, 10);
            due.is("thing " + thing, x.pads(thing, 0, 100, 100, 0), -2);
            due.is("the tape is empty", x.count(2), 0);
        }
        Due.tape(x, 1, 10);
        due.is("as of yesterday", x.pads(0, 0, 100, 100, -1), -2);
    }

    private static final String TRIO = "thing p weighs 1 size 10 20 30 mark 1;"
            + "thing q weighs 1 size 60 10 10 mark 1;thing r weighs 1 size 5 5 5 mark 1;"
            + "box a room 30 10 20 price 7 bears 1;box b room 10 60 10 price 5 bears 1;"
            + "box c room 60 60 60 price 9 bears 1;box d room 5 5 5 price 1 bears 1;"
            + "box e room 60 60 60 price 9 bears 1;";

    private static void boxesAre(Due due, FoamArms x, int margin, int most, int cost, int set) {
        due.is("boxes(" + margin + ", " + most + ")", x.boxes(margin, most, 0), cost);
        due.is("boxSet of " + margin + ", " + most, x.boxSet(), set);
    }

    private static void boxes(Due due) {
        FoamArms x = Due.with(TRIO);
        boxesAre(due, x, 0, 1, 27, 4);
        boxesAre(due, x, 0, 2, 7 + 5 + 5, 3);
        boxesAre(due, x, 0, 3, 7 + 5 + 1, 11);
        boxesAre(due, x, 0, 8, 13, 11);
        boxesAre(due, x, 1, 8, -1, 11);
        boxesAre(due, x, 2000, 8, -1, 11);
        FoamArms turned = new FoamArms();
        int[][] turns = {{10, 20, 30}, {10, 30, 20}, {20, 10, 30}, {20, 30, 10}, {30, 10, 20},
            {30, 20, 10}};
        for (int[] r : turns) {
            String room = r[0] + " " + r[1] + " " + r[2];
            Due.book(turned, "thing p weighs 1 size 8 18 28 mark 1;box a room " + room
                    + " price 3 bears 1;");
            due.is("turn " + room, turned.boxes(1, 1, 0), 3);
            due.is("turn " + room + ", too wide", turned.boxes(2, 1, 0), -1);
            due.is("set", turned.boxSet(), 1);
        }
        Due.book(turned, "thing p weighs 1 size 20 20 20 mark 1;box a room 10 30 30 price 3 bears 1;");
        due.is("the volume alone does not do", turned.boxes(0, 8, 0), -1);
        Due.book(turned, "thing p weighs 1 size 2 2 2 mark 1;box a room 4002 4002 4002 price 10000 "
                + "bears 1;box b room 9 9 9 price 0 bears 1;");
        due.is("margin 2000", turned.boxes(2000, 8, 0), 10000);
        due.is("free", turned.boxes(0, 8, 0), 0);
        due.is("its set", turned.boxSet(), 2);
    }

    private static void boxesNotAsTold(Due due) {
        FoamArms x = Due.with(TRIO);
        due.is("margin -1", x.boxes(-1, 8, 0), -2);
        due.is("margin 2001", x.boxes(2001, 8, 0), -2);
        due.is("margin max", x.boxes(MAX, 8, 0), -2);
        due.is("most 0", x.boxes(0, 0, 0), -2);
        due.is("most 9", x.boxes(0, 9, 0), -2);
        due.is("most min", x.boxes(0, MIN, 0), -2);
        due.is("no THINGS", x.boxes(0, 8, -1), -2);
        due.is("boxSet ahead of any", x.boxSet(), 0);
        due.is("boxes take no tape", x.feed(1, 2, 3, 4, 5) + x.boxes(0, 8, 0) + x.count(2), 53);
        FoamArms empty = Due.with("box a room 9 9 9 price 1 bears 1;");
        due.is("no THINGS, some BOXES", empty.boxes(0, 8, 0), -2);
        Due.book(empty, "thing p weighs 1 size 1 1 1 mark 1;");
        due.is("no BOXES", empty.boxes(0, 8, 0), -1);
        due.is("boxSet ahead of any", empty.boxSet(), 0);
    }
}
