import java.math.BigInteger;
import java.util.ArrayList;
import java.util.HashMap;
import java.util.List;
import java.util.Map;
import java.util.NoSuchElementException;
import java.util.regex.Matcher;
import java.util.regex.Pattern;

/**
 * The document once more, written from its words alone and as slowly as they say: big numbers, all
 * heights, all choices. ModelTest compares it with the class.
 */
final class Model {
    static final class Fault extends RuntimeException {
        private static final long serialVersionUID = 1;
        final int place;
        final int kind;

        Fault(int place, int kind) {
            this.place = place;
            this.kind = kind;
        }
    }

    record Token(String text, int place, boolean good) {
        boolean number() {
            return good && Character.isDigit(text.charAt(0));
        }

        boolean word() {
            return good && Character.isLetter(text.charAt(0));
        }
    }

    record Foam(List<int[]> points, int keeps, int price) { }

    record Pad(Foam foam, int thick, int area) { }

    record Thing(int weight, int[] size, int mark, Pad[] pads) { }

    record Box(int[] room, int price, int bears) { }

    record Drop(int thing, int side, int height, int times) { }

    static final class Book {
        int day = 0;
        int lines = 0;
        final List<Foam> foams = new ArrayList<>();
        final List<Thing> things = new ArrayList<>();
        final List<Box> boxes = new ArrayList<>();
        final List<Drop> drops = new ArrayList<>();
    }

    private static final List<String> RESERVED = List.of("foam", "thing", "box", "pad", "drop",
            "keeps", "price", "weighs", "size", "mark", "room", "bears", "side", "thick", "area",
            "from", "times");

    private final List<Book> books = new ArrayList<>();
    private String tape = "";
    private int today = 0;
    private int fault = 0;
    private int breaksAt = -1;
    private int[] padAt = {-1, -1, -1, -1, -1, -1};
    private int boxSet = 0;

    private List<Token> tokens;
    private int now;
    private Map<String, String> names;

    // ---- tape, days, books

    int feed(int... five) {
        if (tape.length() + 20 > 640) {
            return -1;
        }
        StringBuilder text = new StringBuilder(tape);
        for (int n : five) {
            for (byte b : new byte[] {(byte) (n >>> 24), (byte) (n >>> 16), (byte) (n >>> 8),
                (byte) n}) {
                text.append((char) (b & 255));
            }
        }
        tape = text.toString();
        return tape.length();
    }

    boolean end(int n) {
        if (n < 0 || n > tape.length()) {
            return false;
        }
        tape = tape.substring(0, n);
        return true;
    }

    int next(int n) {
        if (n < 0 || n > 999 || today + n > 999) {
            return -1;
        }
        return today += n;
    }

    int count(int what) {
        return what == 0 ? today : what == 1 ? books.size() : what == 2 ? tape.length() : -1;
    }

    private String use() {
        String text = tape;
        tape = "";
        return text;
    }

    int book() {
        String text = use();
        if (books.size() == 20) {
            return -1000;
        }
        try {
            Book book = read(text);
            book.day = today;
            books.add(book);
            fault = 0;
            return book.lines;
        } catch (Fault f) {
            fault = f.kind;
            return -1 - f.place;
        }
    }

    int fault() {
        return fault;
    }

    private Book asOf(int t) {
        Book last = new Book();
        for (Book book : books) {
            if (book.day <= t) {
                last = book;
            }
        }
        return last;
    }

    // ---- the language

    private Book read(String text) {
        tokens = new ArrayList<>();
        Matcher m = Pattern.compile("[a-z0-9]+|[^ \n]", Pattern.DOTALL).matcher(text);
        while (m.find() && m.start() < 600) {
            boolean good = m.group().matches("[a-z]{1,8}|[0-9]{1,5}|;|:");
            tokens.add(new Token(m.group(), m.start(), good));
        }
        tokens.add(new Token("", Math.min(text.length(), 600), false));
        now = 0;
        names = new HashMap<>();
        Book book = new Book();
        while (now < tokens.size() - 1) {
            line(book);
            want(";");
            book.lines++;
        }
        if (text.length() > 600) {
            throw new Fault(600, 1);
        }
        return book;
    }

    private Token token() {
        return tokens.get(now);
    }

    private void want(String text) {
        if (!token().good() || !token().text().equals(text)) {
            throw new Fault(token().place(), 1);
        }
        now++;
    }

    private boolean sees(String text) {
        return token().good() && token().text().equals(text);
    }

    private int number(int least, int most) {
        Token t = token();
        if (!t.number()) {
            throw new Fault(t.place(), 1);
        }
        int value = Integer.parseInt(t.text());
        if (value < least || value > most) {
            throw new Fault(t.place(), 2);
        }
        now++;
        return value;
    }

    private void newName(String meaning) {
        Token t = token();
        if (!t.word() || RESERVED.contains(t.text())) {
            throw new Fault(t.place(), 1);
        }
        if (names.putIfAbsent(t.text(), meaning) != null) {
            throw new Fault(t.place(), 3);
        }
        now++;
    }

    private int toldName(String kind) {
        Token t = token();
        if (!t.word() || RESERVED.contains(t.text())) {
            throw new Fault(t.place(), 1);
        }
        String meaning = names.getOrDefault(t.text(), "none 0");
        if (!meaning.startsWith(kind + " ")) {
            throw new Fault(t.place(), 3);
        }
        now++;
        return Integer.parseInt(meaning.substring(kind.length() + 1));
    }

    private void roomFor(int have, int most) {
        if (have == most) {
            throw new Fault(token().place(), 4);
        }
        now++;
    }

    private void line(Book book) {
        if (sees("foam")) {
            foamLine(book);
        } else if (sees("thing")) {
            roomFor(book.things.size(), 8);
            newName("thing " + book.things.size());
            want("weighs");
            int weight = number(1, 60000);
            want("size");
            int[] size = {number(1, 9999), number(1, 9999), number(1, 9999)};
            want("mark");
            book.things.add(new Thing(weight, size, number(1, 60000), new Pad[6]));
        } else if (sees("box")) {
            roomFor(book.boxes.size(), 8);
            newName("box " + book.boxes.size());
            want("room");
            int[] room = {number(1, 9999), number(1, 9999), number(1, 9999)};
            want("price");
            int price = number(0, 10000);
            want("bears");
            book.boxes.add(new Box(room, price, number(1, 60000)));
        } else if (sees("pad")) {
            padLine(book);
        } else if (sees("drop")) {
            roomFor(book.drops.size(), 20);
            int thing = toldName("thing");
            want("side");
            int side = number(0, 5);
            want("from");
            int from = number(0, 30000);
            int times = 1;
            if (sees("times")) {
                now++;
                times = number(1, 20);
            }
            book.drops.add(new Drop(thing, side, from, times));
        } else {
            throw new Fault(token().place(), 1);
        }
    }

    private void foamLine(Book book) {
        roomFor(book.foams.size(), 8);
        newName("foam " + book.foams.size());
        List<int[]> points = new ArrayList<>();
        while (points.size() < 2 || token().number()) {
            int[] ahead = points.isEmpty() ? new int[] {-1, 0} : points.get(points.size() - 1);
            int place = token().place();
            int percent = number(ahead[0] + 1, points.isEmpty() ? 0 : 95);
            if (points.size() == 8) {
                throw new Fault(place, 4);
            }
            want(":");
            points.add(new int[] {percent, number(ahead[1], 60000)});
        }
        want("keeps");
        int keeps = number(0, 100);
        want("price");
        book.foams.add(new Foam(points, keeps, number(0, 100)));
    }

    private void padLine(Book book) {
        now++;
        Thing thing = book.things.get(toldName("thing"));
        want("side");
        int place = token().place();
        int side = number(0, 5);
        if (thing.pads()[side] != null) {
            throw new Fault(place, 4);
        }
        Foam foam = book.foams.get(toldName("foam"));
        want("thick");
        int thick = number(10, 600);
        want("area");
        thing.pads()[side] = new Pad(foam, thick, number(1, 2000));
    }

    // ---- drops

    private static BigInteger big(long n) {
        return BigInteger.valueOf(n);
    }

    private static int cut(long... factorsAndDivisor) {
        BigInteger product = BigInteger.ONE;
        for (int i = 0; i < factorsAndDivisor.length - 1; i++) {
            product = product.multiply(big(factorsAndDivisor[i]));
        }
        return product.divide(big(factorsAndDivisor[factorsAndDivisor.length - 1]))
                .min(big(2000000000)).intValueExact();
    }

    private static int pushOf(Foam foam, int percent, int c) {
        for (int i = 0; i < foam.points().size(); i++) {
            int[] p = foam.points().get(i);
            if (p[0] == percent) {
                return cut(p[1], c, 100);
            }
            if (i > 0 && p[0] > percent && percent >= 0) {
                int[] o = foam.points().get(i - 1);
                long high = (long) o[1] * (p[0] - percent) + (long) p[1] * (percent - o[0]);
                return cut(cut(high, p[0] - o[0]), c, 100);
            }
        }
        return -1;
    }

    private static long storedOf(Foam foam, int x, int c) {
        long sum = 0;
        for (int k = 1; k <= x; k++) {
            sum += pushOf(foam, k - 1, c) + pushOf(foam, k, c);
        }
        return sum;
    }

    /** The rows are kept, as the heights are tried one by one. */
    private static final class Rows {
        final Pad pad;
        final int last;
        final int[] push = new int[96];
        final long[] stored = new long[96];

        Rows(Pad pad, int c) {
            this.pad = pad;
            last = pad == null ? -1 : pad.foam().points().get(pad.foam().points().size() - 1)[0];
            for (int x = 0; x <= last; x++) {
                push[x] = pushOf(pad.foam(), x, c);
                stored[x] = storedOf(pad.foam(), x, c);
            }
        }

        int squeeze(int weight, int height) {
            for (int x = 0; x <= last; x++) {
                if (stored[x] * pad.area() * pad.thick()
                        >= 2L * weight * (100L * height + (long) x * pad.thick())) {
                    return x;
                }
            }
            return -2;
        }

        int blow(int weight, int height) {
            int x = squeeze(weight, height);
            return x < 0 ? -2 : cut(push[x], pad.area(), 10, weight);
        }

        boolean holds(int weight, int mark, int height) {
            int blow = blow(weight, height);
            return blow != -2 && blow <= mark;
        }
    }

    private Thing thingOf(int thing, int t) {
        List<Thing> things = asOf(t).things;
        return thing < 0 || thing >= things.size() ? null : things.get(thing);
    }

    private boolean noDrop(int thing, int side, int height, int t) {
        return thingOf(thing, t) == null || side < 0 || side > 5 || height < 0 || height > 30000;
    }

    int many(int kind, int t) {
        Book book = asOf(t);
        return switch (kind) {
            case 0 -> book.foams.size();
            case 1 -> book.things.size();
            case 2 -> book.boxes.size();
            case 3 -> book.drops.size();
            default -> -1;
        };
    }

    int push(int foam, int percent, int c, int t) {
        List<Foam> foams = asOf(t).foams;
        if (foam < 0 || foam >= foams.size() || c < 0 || c > 200) {
            return -1;
        }
        return pushOf(foams.get(foam), percent, c);
    }

    int squeeze(int thing, int side, int height, int c, int t) {
        if (noDrop(thing, side, height, t) || c < 0 || c > 200) {
            return -1;
        }
        Thing x = thingOf(thing, t);
        return new Rows(x.pads()[side], c).squeeze(x.weight(), height);
    }

    int blow(int thing, int side, int height, int c, int t) {
        if (noDrop(thing, side, height, t) || c < 0 || c > 200) {
            return -1;
        }
        Thing x = thingOf(thing, t);
        return new Rows(x.pads()[side], c).blow(x.weight(), height);
    }

    private static boolean holds(Thing x, int side, int height, int kept) {
        return new Rows(x.pads()[side], kept).holds(x.weight(), x.mark(), height);
    }

    int again(int thing, int side, int height, int t) {
        if (noDrop(thing, side, height, t)) {
            return -1;
        }
        Thing x = thingOf(thing, t);
        int kept = 100;
        for (int n = 0; n < 60; n++) {
            if (!holds(x, side, height, kept)) {
                return n;
            }
            kept = kept * x.pads()[side].foam().keeps() / 100;
        }
        return 60;
    }

    int breaks(int thing, int t) {
        Thing x = thingOf(thing, t);
        if (x == null) {
            return -2;
        }
        int[] kept = {100, 100, 100, 100, 100, 100};
        List<Drop> drops = asOf(t).drops;
        for (int line = 0; line < drops.size(); line++) {
            Drop d = drops.get(line);
            for (int time = 1; d.thing() == thing && time <= d.times(); time++) {
                if (!holds(x, d.side(), d.height(), kept[d.side()])) {
                    breaksAt = time;
                    return line;
                }
                kept[d.side()] = kept[d.side()] * x.pads()[d.side()].foam().keeps() / 100;
            }
        }
        return -1;
    }

    int breaksAt() {
        return breaksAt;
    }

    int spans(int thing, int side, int height, int t) {
        String s = use();
        if (noDrop(thing, side, height, t) || s.length() != 4
                || s.chars().anyMatch(b -> b < 1 || b > 200) || s.charAt(0) > s.charAt(1)
                || s.charAt(2) > s.charAt(3)) {
            return -1;
        }
        Thing x = thingOf(thing, t);
        int held = 0;
        for (int c = s.charAt(2); c <= s.charAt(3); c++) {
            Rows rows = new Rows(x.pads()[side], c);
            for (int w = s.charAt(0); w <= s.charAt(1); w++) {
                held += rows.holds(Math.max(1, x.weight() * w / 100), x.mark(), height) ? 1 : 0;
            }
        }
        return held;
    }

    int highest(int thing, int side, int t) {
        return recordedOf(thing, side, 0, noDrop(thing, side, 0, t) ? 0
                : thingOf(thing, t).mark(), t, 1);
    }

    int recorded(int thing, int side, int a, int b, int t, int what) {
        return what == 0 || what == 1 ? recordedOf(thing, side, a, b, t, what) : -1;
    }

    private int recordedOf(int thing, int side, int a, int b, int t, int what) {
        if (noDrop(thing, side, 0, t)) {
            return -1;
        }
        Thing x = thingOf(thing, t);
        Rows rows = new Rows(x.pads()[side], 100);
        int answer = -1;
        for (int h = 0; h <= 30000; h++) {
            int blow = rows.blow(x.weight(), h);
            if (blow != -2 && blow >= a && blow <= b && (what == 1 || answer == -1)) {
                answer = h;
            }
        }
        return answer;
    }

    // ---- choices

    int pads(int thing, int box, int area, int height, int t) {
        String s = use();
        Book book = asOf(t);
        if (noDrop(thing, 0, height, t) || box < 0 || box >= book.boxes.size() || area < 1
                || area > 2000 || s.length() % 2 != 0 || s.isEmpty() || s.length() > 20) {
            return -2;
        }
        int n = s.length() / 2;
        Pad[] kinds = new Pad[n];
        for (int i = 0; i < n; i++) {
            int foam = s.charAt(2 * i);
            int thick = s.charAt(2 * i + 1) * 10;
            if (foam >= book.foams.size() || thick < 10 || thick > 600) {
                return -2;
            }
            kinds[i] = new Pad(book.foams.get(foam), thick, area);
        }
        Thing x = thingOf(thing, t);
        boolean[] holds = new boolean[n];
        int[] cost = new int[n];
        for (int i = 0; i < n; i++) {
            holds[i] = new Rows(kinds[i], 100).holds(x.weight(), x.mark(), height);
            cost[i] = cut(kinds[i].foam().price(), area, kinds[i].thick(), 1000);
        }
        return cheapestSix(x, book.boxes.get(box), kinds, holds, cost);
    }

    private int cheapestSix(Thing x, Box box, Pad[] kinds, boolean[] holds, int[] cost) {
        int n = kinds.length;
        int best = -1;
        for (int all = 0; all < Math.pow(n, 6); all++) {
            int[] six = new int[6];
            int rest = all;
            for (int side = 5; side >= 0; side--) {
                six[side] = rest % n;
                rest /= n;
            }
            int sum = 0;
            boolean good = true;
            for (int side = 0; side < 6; side++) {
                sum += cost[six[side]];
                good &= holds[six[side]];
            }
            for (int size = 0; size < 3; size++) {
                good &= kinds[six[2 * size]].thick() + kinds[six[2 * size + 1]].thick()
                        + x.size()[size] <= box.room()[size];
            }
            if (good && (best == -1 || sum < best)) {
                best = sum;
                padAt = six;
            }
        }
        return best;
    }

    int padAt(int side) {
        return side < 0 || side > 5 ? -1 : padAt[side];
    }

    int boxes(int margin, int most, int t) {
        Book book = asOf(t);
        if (margin < 0 || margin > 2000 || most < 1 || most > 8 || book.things.isEmpty()) {
            return -2;
        }
        int best = -1;
        for (int set = (1 << book.boxes.size()) - 1; set > 0; set--) {
            int sum = 0;
            for (Thing x : book.things) {
                int least = Integer.MAX_VALUE;
                for (int i = 0; i < book.boxes.size(); i++) {
                    if ((set & 1 << i) != 0 && goes(x, book.boxes.get(i), margin)) {
                        least = Math.min(least, book.boxes.get(i).price());
                    }
                }
                sum = least == Integer.MAX_VALUE || sum < 0 ? -1 : sum + least;
            }
            if (sum >= 0 && Integer.toBinaryString(set).replace("0", "").length() <= most
                    && (best == -1 || sum <= best)) {
                best = sum;
                boxSet = set;
            }
        }
        return best;
    }

    private static boolean goes(Thing x, Box box, int margin) {
        int[] size = x.size().clone();
        int[] room = box.room().clone();
        java.util.Arrays.sort(size);
        java.util.Arrays.sort(room);
        return size[0] + 2 * margin <= room[0] && size[1] + 2 * margin <= room[1]
                && size[2] + 2 * margin <= room[2];
    }

    int boxSet() {
        return boxSet;
    }

    int stack(int box, int n, int w, int t) {
        String s = use();
        Book book = asOf(t);
        if (box < 0 || box >= book.boxes.size() || n < 1 || n > 99 || w < 0 || w > 60000
                || s.isEmpty() || s.length() > 400) {
            return -2;
        }
        for (int day = 0; day < s.length(); day++) {
            if ((n - 1) * w > cut(book.boxes.get(box).bears(), s.charAt(day), 100)) {
                return day;
            }
        }
        return -1;
    }

    long journey(int thing, int t) {
        Thing x = thingOf(thing, t);
        if (x == null || tape.isEmpty() || tape.length() > 400 || tape.length() % 10 != 0) {
            throw new NoSuchElementException();
        }
        BigInteger parts = BigInteger.TEN.pow(15);
        for (int leg = 0; leg < tape.length(); leg += 10) {
            char[] b = tape.substring(leg, leg + 10).toCharArray();
            int held = 0;
            int all = 0;
            for (int i = 0; i < 3; i++) {
                int height = b[1 + 2 * i] * 256 + b[2 + 2 * i];
                if (b[0] > 5 || height > 30000) {
                    throw new NoSuchElementException();
                }
                all += b[7 + i];
                held += holds(x, b[0], height, 100) ? b[7 + i] : 0;
            }
            if (all == 0) {
                throw new NoSuchElementException();
            }
            parts = parts.multiply(big(held)).divide(big(all));
        }
        tape = "";
        return parts.longValueExact();
    }

    int proved(int n, int s) {
        if (n < 1 || n > 8 || s < 2 || s > 900) {
            return -1;
        }
        int answer = -1;
        for (int p = 0; p <= 99; p++) {
            if (big(100 - p).pow(n).multiply(big(s)).compareTo(big(100).pow(n)) >= 0) {
                answer = p;
            }
        }
        return answer;
    }

    int needed(int p, int s) {
        if (p < 1 || p > 99 || s < 2 || s > 1000000) {
            return -1;
        }
        BigInteger all = BigInteger.TEN.pow(15);
        BigInteger left = all;
        for (int n = 1; n <= 999; n++) {
            left = left.multiply(big(100 - p)).divide(big(100));
            if (left.compareTo(all.divide(big(s))) < 0) {
                return n;
            }
        }
        return -1;
    }
}
