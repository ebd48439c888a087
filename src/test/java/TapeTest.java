/** Promises 1 to 4 and 25: a new object, feed, end, next, count. */
final class TapeTest {
    public static void main(String[] args) {
        Due due = new Due("TapeTest");
        newObject(due);
        feeding(due);
        ending(due);
        days(due);
        due.close();
    }

    private static void newObject(Due due) {
        FoamArms x = new FoamArms();
        due.is("new today", x.count(0), 0);
        due.is("new books", x.count(1), 0);
        due.is("new tape", x.count(2), 0);
        due.is("count(3)", x.count(3), -1);
        due.is("count(-1)", x.count(-1), -1);
        due.is("count(min)", x.count(Integer.MIN_VALUE), -1);
        due.is("new fault", x.fault(), 0);
        due.is("new breaksAt", x.breaksAt(), -1);
        due.is("new boxSet", x.boxSet(), 0);
        for (int side = -1; side <= 6; side++) {
            due.is("new padAt", x.padAt(side), -1);
        }
        for (int kind = 0; kind < 4; kind++) {
            due.is("new many", x.many(kind, 999), 0);
        }
    }

    private static void feeding(Due due) {
        FoamArms x = new FoamArms();
        for (int i = 1; i <= 32; i++) {
            due.is("feed " + i, x.feed(0x20202020, 0x20202020, 0x20202020, 0x20202020, i), 20 * i);
        }
        due.is("feed the 33rd", x.feed(1, 2, 3, 4, 5), -1);
        due.is("640 stay", x.count(2), 640);
        due.is("end(621)", x.end(621), true);
        due.is("feed with 621", x.feed(1, 2, 3, 4, 5), -1);
        due.is("621 stay", x.count(2), 621);
        due.is("end(620)", x.end(620), true);
        due.is("feed with 620", x.feed(1, 2, 3, 4, 5), 640);
        highestFirst(due);
    }

    /** The bytes' order is seen by a STACK that falls on the day of the first byte 0. */
    private static void highestFirst(Due due) {
        int[] words = {0x00ffffff, 0xff00ffff, 0xffff00ff, 0xffffff00};
        for (int i = 0; i < 20; i++) {
            FoamArms x = Due.with("box b room 1 1 1 price 0 bears 100;");
            int[] five = {-1, -1, -1, -1, -1};
            five[i / 4] = words[i % 4];
            x.feed(five[0], five[1], five[2], five[3], five[4]);
            due.is("byte " + i, x.stack(0, 2, 10, 0), i);
        }
    }

    private static void ending(Due due) {
        FoamArms x = new FoamArms();
        due.is("end(0) of none", x.end(0), true);
        due.is("end(1) of none", x.end(1), false);
        due.is("end(-1) of none", x.end(-1), false);
        x.feed(1, 2, 3, 4, 5);
        due.is("end(21)", x.end(21), false);
        due.is("end(max)", x.end(Integer.MAX_VALUE), false);
        due.is("end(-1)", x.end(-1), false);
        due.is("20 stay", x.count(2), 20);
        due.is("end(20)", x.end(20), true);
        due.is("end(7)", x.end(7), true);
        due.is("7 stay", x.count(2), 7);
        due.is("end(8)", x.end(8), false);
        due.is("feed goes behind", x.feed(1, 2, 3, 4, 5), 27);
    }

    private static void days(Due due) {
        FoamArms x = new FoamArms();
        due.is("next(-1)", x.next(-1), -1);
        due.is("next(1000)", x.next(1000), -1);
        due.is("next(max)", x.next(Integer.MAX_VALUE), -1);
        due.is("next(min)", x.next(Integer.MIN_VALUE), -1);
        due.is("next(0)", x.next(0), 0);
        due.is("next(998)", x.next(998), 998);
        due.is("next(2)", x.next(2), -1);
        due.is("today stays", x.count(0), 998);
        due.is("next(1)", x.next(1), 999);
        due.is("next(0)", x.next(0), 999);
        due.is("next(1)", x.next(1), -1);
        due.is("today", x.count(0), 999);
        due.is("next(999) at once", new FoamArms().next(999), 999);
    }
}
