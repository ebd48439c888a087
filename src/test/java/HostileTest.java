import java.util.Random;

/** Any arguments in any state: nothing but journey's own exception ever reaches the caller. */
final class HostileTest {
    private static final int[] EDGES = {Integer.MIN_VALUE, Integer.MIN_VALUE + 1, -30001, -1000, -2,
        -1, 0, 1, 2, 3, 4, 5, 6, 7, 8, 9, 10, 19, 20, 60, 95, 96, 99, 100, 200, 201, 400, 600, 640,
        900, 999, 1000, 2000, 9999, 30000, 30001, 60000, 1000000, Integer.MAX_VALUE - 1,
        Integer.MAX_VALUE};
    private static final String BOOK = "foam f 0:0 50:60000 95:60000 keeps 99 price 100;"
            + "foam g 0:60000 1:60000 keeps 100 price 0;thing c weighs 60000 size 9999 1 9 mark 1;"
            + "thing d weighs 1 size 1 1 1 mark 60000;pad c side 0 f thick 600 area 2000;"
            + "pad d side 0 f thick 600 area 2000;pad d side 5 g thick 10 area 1;"
            + "drop d side 0 from 30000 times 20;drop d side 0 from 30000 times 20;"
            + "drop c side 0 from 9;box b room 9999 9999 9999 price 10000 bears 60000;";

    public static void main(String[] args) {
        Due due = new Due("HostileTest");
        for (int seed = 1; seed <= 300; seed++) {
            due.is("run " + seed, run(new Random(seed)), 0);
        }
        due.close();
    }

    private static int run(Random dice) {
        FoamArms x = new FoamArms();
        if (dice.nextInt(4) > 0) {
            Due.book(x, BOOK);
        }
        for (int i = 0; i < 400; i++) {
            try {
                call(x, dice);
            } catch (RuntimeException e) {
                e.printStackTrace(System.out);
                return 1;
            }
        }
        return 0;
    }

    private static int any(Random dice) {
        return dice.nextInt(6) == 0 ? dice.nextInt() : EDGES[dice.nextInt(EDGES.length)];
    }

    private static void call(FoamArms x, Random dice) {
        int a = any(dice);
        int b = any(dice);
        int c = any(dice);
        int d = any(dice);
        int e = dice.nextInt(3) == 0 ? any(dice) : 0;
        int thing = dice.nextBoolean() ? dice.nextInt(2) : a;
        int side = dice.nextBoolean() ? dice.nextInt(6) : b;
        switch (dice.nextInt(26)) {
            case 0: case 1: x.feed(a, b, c, d, dice.nextInt()); break;
            case 2: x.end(a); break;
            case 3: x.end(x.count(2) - dice.nextInt(30)); break;
            case 4: x.next(a); break;
            case 5: x.book(); break;
            case 6: x.fault(); break;
            case 7: x.many(a, e); break;
            case 8: x.push(thing, b, c, e); break;
            case 9: x.squeeze(thing, side, c, d, e); break;
            case 10: x.blow(thing, side, c, d, e); break;
            case 11: x.again(thing, side, c, e); break;
            case 12: x.breaks(thing, e); break;
            case 13: x.breaksAt(); break;
            case 14: x.spans(thing, side, c, e); break;
            case 15: x.highest(thing, side, e); break;
            case 16: x.recorded(thing, side, c, d, e, dice.nextInt(3)); break;
            case 17: x.recorded(thing, side, c, d, e, a); break;
            case 18: x.pads(thing, dice.nextInt(2), c, d, e); break;
            case 19: x.padAt(a); break;
            case 20: x.boxes(a, b, e); break;
            case 21: x.boxSet(); break;
            case 22: x.stack(dice.nextInt(2), b, c, e); break;
            case 23: Due.journey(x, thing, e); break;
            case 24: x.proved(a, b); break;
            default: x.needed(a, b); x.count(a); break;
        }
    }
}
