import java.nio.charset.StandardCharsets;
import java.util.NoSuchElementException;
import java.util.Random;

/** Random runs (the same each time) of all calls, each answer compared with the Model's. */
final class ModelTest {
    private static final String[] WORDS = {"foam", "thing", "box", "pad", "drop", "keeps", "price",
        "weighs", "size", "mark", "room", "bears", "side", "thick", "area", "from", "times", "a", "b",
        "tx", "fx", ";", ":", "0", "1", "5", "95", "96", "100", "60000", "60001", "99999", "?", "A",
        "abcdefghi", "a1", "123456", "\n"};

    private final Random dice;
    private final Due due;
    private final FoamArms x = new FoamArms();
    private final Model model = new Model();
    private int calls = 0;

    private ModelTest(long seed, Due due) {
        dice = new Random(seed);
        this.due = due;
    }

    public static void main(String[] args) {
        Due due = new Due("ModelTest");
        int runs = args.length > 0 ? Integer.parseInt(args[0]) : 600;
        for (int seed = 1; seed <= runs; seed++) {
            new ModelTest(seed, due).run(seed);
        }
        due.close();
    }

    /** Each comparison is a call, and what an object answers behind its 512th is free. */
    private void is(String call, long got, long want) {
        calls++;
        due.is(call, got, want);
    }

    private void is(String call, boolean got, boolean want) {
        is(call, got ? 1 : 0, want ? 1 : 0);
    }

    private void run(int seed) {
        for (int i = 0; i < 400 && calls < 470; i++) {
            if (i % 25 == 0) {
                tellBook(seed + " book");
            } else {
                ask(seed + "");
            }
        }
    }

    private int roll(int n) {
        return dice.nextInt(n);
    }

    private int roll(int least, int most) {
        return least + dice.nextInt(most - least + 1);
    }

    private int small(int n) {
        return roll(12) == 0 ? roll(-1, n + 1) : roll(n);
    }

    private int height() {
        int[] edges = {-1, 0, 1, 30000, 30001, Integer.MAX_VALUE, Integer.MIN_VALUE};
        return roll(10) == 0 ? edges[roll(edges.length)] : roll(roll(3) == 0 ? 30001 : 2500);
    }

    private int kept() {
        return roll(12) == 0 ? roll(-1, 201) : roll(60, 110);
    }

    private int day() {
        return roll(6) == 0 ? roll(-1, 1000) : model.count(0);
    }

    private void tape(byte[] bytes) {
        int before = model.count(2);
        for (int from = 0; from < bytes.length; from += 20) {
            int[] five = new int[5];
            for (int i = 0; i < 20; i++) {
                int b = from + i < bytes.length ? bytes[from + i] & 255 : roll(256);
                five[i / 4] = five[i / 4] << 8 | b;
            }
            is("feed", x.feed(five[0], five[1], five[2], five[3], five[4]), model.feed(five));
        }
        int n = roll(40) == 0 ? roll(-1, 700) : before + bytes.length;
        is("end", x.end(n), model.end(n));
    }

    private void tape(int... bytes) {
        byte[] row = new byte[bytes.length];
        for (int i = 0; i < row.length; i++) {
            row[i] = (byte) bytes[i];
        }
        tape(row);
    }

    private void tellBook(String call) {
        String text = text();
        if (roll(3) == 0) {
            text = spoil(text);
        }
        tape(text.getBytes(StandardCharsets.ISO_8859_1));
        is(call + " " + text, x.book(), model.book());
        is(call + " fault " + text, x.fault(), model.fault());
    }

    private String text() {
        StringBuilder s = new StringBuilder();
        int foams = roll(1, 3);
        int things = roll(1, 3);
        for (int i = 0; i < foams; i++) {
            s.append("foam f").append((char) ('a' + i)).append(points()).append(" keeps ")
                    .append(roll(3) == 0 ? 100 : roll(60, 100)).append(" price ").append(roll(10))
                    .append(blank(";"));
        }
        for (int i = 0; i < things; i++) {
            s.append("thing t").append((char) ('a' + i)).append(" weighs ")
                    .append(roll(5) == 0 ? roll(1, 60) : roll(1, 3000)).append(" size ")
                    .append(roll(1, 300)).append(" ").append(roll(1, 300)).append(" ")
                    .append(roll(1, 300)).append(" mark ").append(roll(1, 2500)).append(blank(";"));
        }
        int rest = roll(3, 14);
        int boxes = 0;
        for (int i = 0; i < rest && s.length() < 540; i++) {
            String thing = " t" + (char) ('a' + roll(things)) + " side " + roll(roll(2) == 0 ? 2 : 6);
            String foam = " f" + (char) ('a' + roll(foams));
            int what = roll(4);
            if (what == 0 && boxes < 5) {
                s.append("box b").append((char) ('a' + boxes++)).append(" room ")
                        .append(roll(100, 500)).append(" ").append(roll(100, 500)).append(" ")
                        .append(roll(100, 500)).append(" price ").append(roll(20))
                        .append(" bears ").append(roll(1, 5000)).append(blank(";"));
            } else if (what == 1) {
                s.append("drop").append(thing).append(" from ").append(roll(600));
                s.append(roll(2) == 0 ? "" : " times " + roll(1, 20)).append(blank(";"));
            } else {
                s.append("pad").append(thing).append(foam).append(" thick ").append(roll(10, 300))
                        .append(" area ").append(roll(1, 200)).append(blank(";"));
            }
        }
        return s.toString();
    }

    private String points() {
        StringBuilder s = new StringBuilder();
        int percent = 0;
        int push = roll(2) == 0 ? 0 : roll(50);
        int n = roll(2, 5);
        for (int i = 0; i < n && percent <= 95; i++) {
            s.append(" ").append(percent).append(blank(":")).append(push);
            percent += roll(1, 25);
            push += roll(roll(4) == 0 ? 20000 : 1500);
        }
        return s.toString();
    }

    private String blank(String sign) {
        String[] blanks = {"", "", " ", "\n", "  "};
        return blanks[roll(5)] + sign + blanks[roll(5)];
    }

    private String spoil(String text) {
        int at = roll(text.length());
        switch (roll(5)) {
            case 0:
                return text.substring(0, at);
            case 1:
                return text.substring(0, at) + (char) roll(256) + text.substring(at + 1);
            case 2:
                return text + text.substring(0, Math.min(at, 630 - Math.min(text.length(), 630)));
            default:
                int from = text.lastIndexOf(' ', at) + 1;
                int to = text.indexOf(' ', from);
                return text.substring(0, from) + WORDS[roll(WORDS.length)]
                        + (to < 0 ? "" : text.substring(to));
        }
    }

    private void ask(String run) {
        int t = day();
        int thing = small(3);
        int side = roll(2) == 0 ? small(2) : small(6);
        int h = height();
        int c = kept();
        String args = run + ": " + thing + " " + side + " " + h + " " + c + " " + t;
        switch (roll(20)) {
            case 0:
                int n = roll(4) == 0 ? roll(-1, 1000) : roll(20);
                is(args + " next " + n, x.next(n), model.next(n));
                break;
            case 1:
                int kind = small(4);
                is(args + " many", x.many(kind, t), model.many(kind, t));
                is(args + " count", x.count(kind), model.count(kind));
                break;
            case 2:
                int percent = small(96);
                is(args + " push", x.push(thing, percent, c, t),
                        model.push(thing, percent, c, t));
                break;
            case 3:
            case 4:
                is(args + " squeeze", x.squeeze(thing, side, h, c, t),
                        model.squeeze(thing, side, h, c, t));
                break;
            case 5:
            case 6:
                is(args + " blow", x.blow(thing, side, h, c, t),
                        model.blow(thing, side, h, c, t));
                break;
            case 7:
            case 8:
                is(args + " again", x.again(thing, side, h / 4, t),
                        model.again(thing, side, h / 4, t));
                break;
            case 9:
            case 10:
                is(args + " breaks", x.breaks(thing, t), model.breaks(thing, t));
                is(args + " breaksAt", x.breaksAt(), model.breaksAt());
                break;
            case 11:
                askHeights(args, thing, side, t);
                break;
            case 12:
                askSpans(args, thing, side, h / 2, t);
                break;
            case 13:
            case 14:
                askPads(args, thing, h / 4, t);
                break;
            case 15:
            case 16:
                askBoxes(args, t);
                break;
            case 17:
                askStack(args, t);
                break;
            case 18:
                askJourney(args, thing, t);
                break;
            default:
                int tests = roll(-1, 10);
                int s = roll(3) == 0 ? roll(-1, 1000001) : roll(1, 902);
                int p = small(100);
                is(args + " proved", x.proved(tests, s), model.proved(tests, s));
                is(args + " needed", x.needed(p, s), model.needed(p, s));
        }
    }

    private void askHeights(String args, int thing, int side, int t) {
        is(args + " highest", x.highest(thing, side, t), model.highest(thing, side, t));
        int a = roll(-20, 3000);
        int b = roll(6) == 0 ? Integer.MAX_VALUE : a + roll(-10, 800);
        for (int what = roll(9) == 0 ? -1 : 0; what < 2; what++) {
            is(args + " recorded " + a + " " + b + " " + what,
                    x.recorded(thing, side, a, b, t, what),
                    model.recorded(thing, side, a, b, t, what));
        }
    }

    private void askSpans(String args, int thing, int side, int h, int t) {
        int a = roll(60, 110);
        int c = roll(60, 110);
        int edge = roll(12) == 0 ? roll(256) : a + roll(40);
        if (roll(15) == 0) {
            tape(a, edge, c);
        } else {
            tape(a, edge, c, roll(12) == 0 ? roll(256) : c + roll(40));
        }
        is(args + " spans", x.spans(thing, side, h, t), model.spans(thing, side, h, t));
    }

    private void askPads(String args, int thing, int h, int t) {
        int[] kinds = new int[roll(20) == 0 ? roll(10) : 2 * roll(1, 4)];
        for (int i = 0; i < kinds.length; i++) {
            kinds[i] = i % 2 == 0 ? (roll(30) == 0 ? roll(5) : roll(2)) : roll(30) == 0 ? roll(62)
                    : roll(1, 12);
        }
        tape(kinds);
        int area = roll(15) == 0 ? roll(-1, 2001) : roll(1, 300);
        int box = small(2);
        is(args + " pads", x.pads(thing, box, area, h, t), model.pads(thing, box, area, h, t));
        for (int side = -1; side < 7; side++) {
            is(args + " padAt " + side, x.padAt(side), model.padAt(side));
        }
    }

    private void askBoxes(String args, int t) {
        int margin = roll(12) == 0 ? roll(-1, 2001) : roll(80);
        int most = roll(12) == 0 ? roll(-1, 9) : roll(1, 4);
        is(args + " boxes " + margin + " " + most, x.boxes(margin, most, t),
                model.boxes(margin, most, t));
        is(args + " boxSet", x.boxSet(), model.boxSet());
    }

    private void askStack(String args, int t) {
        int[] days = new int[roll(20) == 0 ? roll(380, 420) : roll(12)];
        for (int i = 0; i < days.length; i++) {
            days[i] = Math.max(0, 255 - i * roll(40));
        }
        tape(days);
        int box = small(2);
        int n = roll(10) == 0 ? roll(-1, 100) : roll(1, 9);
        int w = roll(10) == 0 ? roll(-1, 60001) : roll(800);
        is(args + " stack", x.stack(box, n, w, t), model.stack(box, n, w, t));
    }

    private void askJourney(String args, int thing, int t) {
        int[] legs = new int[roll(12) == 0 ? roll(45) : 10 * roll(1, 4)];
        for (int i = 0; i < legs.length; i++) {
            int part = i % 10;
            legs[i] = part == 0 ? (roll(15) == 0 ? roll(8) : roll(2)) : part > 6 ? roll(4)
                    : part % 2 == 1 ? (roll(15) == 0 ? roll(256) : roll(2)) : roll(256);
        }
        tape(legs);
        long got = Due.journey(x, thing, t);
        long want = Due.THROWN;
        try {
            want = model.journey(thing, t);
        } catch (NoSuchElementException e) {
            is(args + " tape stays", x.count(2), model.count(2));
        }
        is(args + " journey", got, want);
        if (roll(2) == 0) {
            is("end(0)", x.end(0), model.end(0));
        }
    }
}
