import java.util.NoSuchElementException;

/**
 * A house for packing that lets a thing fall and not break. The words in capitals in the comments
 * are the document's terms. All numbers are whole; every division cuts.
 */
public final class FoamArms {
    public static final int NONE = -1;

    private static final int NOT_AS_TOLD = -2;
    private static final int TO_END = -2;
    private static final int BOOKS_ARE_FULL = -1000;
    private static final int MOST_BOOKS = 20;
    private static final int LAST_DAY = 999;
    private static final int FED_BYTES = 20;
    private static final int SIDES = 6;
    private static final int SIZES = 3;
    private static final int MOST_HEIGHT = 30000;
    private static final int MOST_AREA = 2000;
    private static final int NEW_FOAM = 100;
    private static final int MOST_KEPT = 200;
    private static final int MOST_AGAIN = 60;
    private static final int MOST_SHARE = 200;
    private static final int MOST_MARGIN = 2000;
    private static final int LEG_BYTES = 10;
    private static final int MOST_LEGS = 40;
    private static final int LEG_HEIGHTS = 3;
    private static final int MOST_NEEDED = 999;
    private static final long WHOLE = 1000000000000000L;

    private final Tape tape;
    private final BookReader reader;
    private final Book[] books;
    private final Book emptyBook;
    private final Cushion cushion;
    private final PadChoice padChoice;
    private final BoxChoice boxChoice;
    private final int[] keptOnSide;
    private int bookCount;
    private int today;
    private int faultKind;
    private int brokenTime;

    public FoamArms() {
        tape = new Tape();
        reader = new BookReader();
        books = new Book[MOST_BOOKS];
        emptyBook = new Book();
        cushion = new Cushion();
        padChoice = new PadChoice();
        boxChoice = new BoxChoice();
        keptOnSide = new int[SIDES];
        bookCount = 0;
        today = 0;
        faultKind = 0;
        brokenTime = NONE;
    }

    public int feed(int a, int b, int c, int d, int e) {
        if (tape.length + FED_BYTES > Tape.MOST) {
            return NONE;
        }
        tape.add(a);
        tape.add(b);
        tape.add(c);
        tape.add(d);
        tape.add(e);
        return tape.length;
    }

    public boolean end(int n) {
        if (n < 0 || n > tape.length) {
            return false;
        }
        tape.length = n;
        return true;
    }

    public int next(int n) {
        if (n < 0 || n > LAST_DAY - today) {
            return NONE;
        }
        today += n;
        return today;
    }

    public int book() {
        int answer = BOOKS_ARE_FULL;
        if (bookCount < MOST_BOOKS) {
            Book told = reader.readBook(tape);
            faultKind = reader.faultKind;
            answer = told == null ? -1 - reader.placeOfFault() : told.lines;
            keepBook(told);
        }
        tape.length = 0;
        return answer;
    }

    public int fault() {
        return faultKind;
    }

    public int many(int kind, int t) {
        Book told = asOf(t);
        switch (kind) {
            case 0:
                return told.foamCount;
            case 1:
                return told.thingCount;
            case 2:
                return told.boxCount;
            case 3:
                return told.dropCount;
            default:
                return NONE;
        }
    }

    public int push(int foam, int percent, int c, int t) {
        Foam pushing = asOf(t).foamAt(foam);
        if (pushing == null || !isKept(c)) {
            return NONE;
        }
        int fresh = pushing.pushAt(percent);
        return fresh == NONE ? NONE : fresh * c / 100;
    }

    public int squeeze(int thing, int side, int height, int c, int t) {
        Thing falling = putOnPad(thing, side, t);
        if (falling == null || !isHeight(height) || !isKept(c)) {
            return NONE;
        }
        cushion.wearTo(c);
        return cushion.squeezeOf(falling.weight, height, 0);
    }

    public int blow(int thing, int side, int height, int c, int t) {
        Thing falling = putOnPad(thing, side, t);
        if (falling == null || !isHeight(height) || !isKept(c)) {
            return NONE;
        }
        cushion.wearTo(c);
        return cushion.blowOf(falling.weight, height);
    }

    public int again(int thing, int side, int height, int t) {
        Thing falling = putOnPad(thing, side, t);
        if (falling == null || !isHeight(height)) {
            return NONE;
        }
        int held = 0;
        while (held < MOST_AGAIN && cushion.holds(falling, height)) {
            held++;
            cushion.wearByBlow();
        }
        return held;
    }

    public int breaks(int thing, int t) {
        Book told = asOf(t);
        Thing falling = told.thingAt(thing);
        if (falling == null) {
            return NOT_AS_TOLD;
        }
        for (int side = 0; side < SIDES; side++) {
            keptOnSide[side] = NEW_FOAM;
        }
        for (int line = 0; line < told.dropCount; line++) {
            Drop drop = told.dropAt(line);
            int time = drop == null || drop.thing != thing ? NONE : timeThatBreaks(falling, drop);
            if (time != NONE) {
                brokenTime = time;
                return line;
            }
        }
        return NONE;
    }

    public int breaksAt() {
        return brokenTime;
    }

    public int spans(int thing, int side, int height, int t) {
        Thing falling = putOnPad(thing, side, t);
        int answer = NONE;
        if (falling != null && isHeight(height) && tapeTellsSpans()) {
            answer = 0;
            for (int kept = tape.byteAt(2); kept <= tape.byteAt(3); kept++) {
                cushion.wearTo(kept);
                answer += weightsThatHold(falling, height, tape.byteAt(0), tape.byteAt(1));
            }
        }
        tape.length = 0;
        return answer;
    }

    public int highest(int thing, int side, int t) {
        Thing falling = putOnPad(thing, side, t);
        return falling == null ? NONE : cushion.greatestHeight(falling.weight, falling.mark);
    }

    public int recorded(int thing, int side, int a, int b, int t, int what) {
        Thing falling = putOnPad(thing, side, t);
        if (falling == null || what < 0 || what > 1) {
            return NONE;
        }
        // A greater height never gives a lesser BLOW: the first height with a BLOW of a or more
        // comes right behind the last one with less.
        int height = what == 1
                ? cushion.greatestHeight(falling.weight, b)
                : cushion.greatestHeight(falling.weight, a - 1L) + 1;
        if (!isHeight(height)) {
            return NONE;
        }
        int hit = cushion.blowOf(falling.weight, height);
        return hit != TO_END && hit >= a && hit <= b ? height : NONE;
    }

    public int pads(int thing, int box, int area, int height, int t) {
        Book told = asOf(t);
        Thing packed = told.thingAt(thing);
        Box around = told.boxAt(box);
        int answer = NOT_AS_TOLD;
        if (packed != null && around != null && area >= 1 && area <= MOST_AREA
                && isHeight(height) && padChoice.readKinds(tape, told)) {
            for (int kind = 0; kind < padChoice.kinds; kind++) {
                layKind(told, kind, area);
                padChoice.judge(kind, area, cushion.holds(packed, height));
            }
            answer = padChoice.choose(packed, around);
        }
        tape.length = 0;
        return answer;
    }

    public int padAt(int side) {
        return isSide(side) ? padChoice.latest[side] : NONE;
    }

    public int boxes(int margin, int most, int t) {
        Book told = asOf(t);
        if (margin < 0 || margin > MOST_MARGIN || most < 1 || most > Book.MOST
                || told.thingCount == 0) {
            return NOT_AS_TOLD;
        }
        boxChoice.take(told, margin);
        return boxChoice.choose(most);
    }

    public int boxSet() {
        return boxChoice.latestSet;
    }

    public int stack(int box, int n, int w, int t) {
        Box lowest = asOf(t).boxAt(box);
        int answer = NOT_AS_TOLD;
        if (lowest != null && n >= 1 && n <= 99 && w >= 0 && w <= 60000
                && tape.length >= 1 && tape.length <= 400) {
            answer = dayOfFall(lowest.bears, (n - 1) * w);
        }
        tape.length = 0;
        return answer;
    }

    public long journey(int thing, int t) throws NoSuchElementException {
        Thing sent = asOf(t).thingAt(thing);
        if (sent == null || !tapeTellsLegs()) {
            throw new NoSuchElementException("no such thing, or legs not as told");
        }
        long parts = WHOLE;
        for (int from = 0; from < tape.length; from += LEG_BYTES) {
            int all = sharesOfLeg(from);
            cushion.layPad(sent, tape.byteAt(from));
            parts = all < 1 ? 0 : parts * heldSharesOfLeg(sent, from) / all;
        }
        tape.length = 0;
        return parts;
    }

    public int proved(int n, int s) {
        if (n < 1 || n > 8 || s < 2 || s > 900) {
            return NONE;
        }
        // 100^8 * 900 is still a long.
        long bound = power(100, n);
        int share = 99;
        while (share > 0 && power(100 - share, n) * s < bound) {
            share--;
        }
        return share;
    }

    public int needed(int p, int s) {
        if (p < 1 || p > 99 || s < 2 || s > 1000000) {
            return NONE;
        }
        long bound = WHOLE / s;
        long left = WHOLE;
        for (int tests = 1; tests <= MOST_NEEDED; tests++) {
            left = left * (100 - p) / 100;
            if (left < bound) {
                return tests;
            }
        }
        return NONE;
    }

    public int count(int what) {
        switch (what) {
            case 0:
                return today;
            case 1:
                return bookCount;
            case 2:
                return tape.length;
            default:
                return NONE;
        }
    }

    private static boolean isSide(int side) {
        return side >= 0 && side < SIDES;
    }

    private static boolean isHeight(int height) {
        return height >= 0 && height <= MOST_HEIGHT;
    }

    private static boolean isKept(int kept) {
        return kept >= 0 && kept <= MOST_KEPT;
    }

    private static long power(long base, int exponent) {
        long product = 1;
        for (int i = 0; i < exponent; i++) {
            product *= base;
        }
        return product;
    }

    private void keepBook(Book told) {
        if (told != null && bookCount < books.length) {
            told.day = today;
            books[bookCount] = told;
            bookCount++;
        }
    }

    private Book asOf(int day) {
        for (int i = Math.min(bookCount, books.length) - 1; i >= 0; i--) {
            if (books[i] != null && books[i].day <= day) {
                return books[i];
            }
        }
        return emptyBook;
    }

    /** The THING, its side's PAD being laid as new; null: no such THING or side. */
    private Thing putOnPad(int thing, int side, int t) {
        Thing falling = asOf(t).thingAt(thing);
        if (falling == null || !isSide(side)) {
            return null;
        }
        cushion.layPad(falling, side);
        return falling;
    }

    /** Which time of a LINE of DROPS does not HOLD; NONE: they all do. */
    private int timeThatBreaks(Thing falling, Drop drop) {
        if (!isSide(drop.side)) {
            return NONE;
        }
        cushion.layPad(falling, drop.side);
        cushion.wearTo(keptOnSide[drop.side]);
        for (int time = 1; time <= drop.times; time++) {
            if (!cushion.holds(falling, drop.height)) {
                return time;
            }
            cushion.wearByBlow();
        }
        keptOnSide[drop.side] = cushion.kept;
        return NONE;
    }

    private boolean tapeTellsSpans() {
        if (tape.length != 4) {
            return false;
        }
        for (int i = 0; i < 4; i++) {
            if (tape.byteAt(i) < 1 || tape.byteAt(i) > MOST_SHARE) {
                return false;
            }
        }
        return tape.byteAt(0) <= tape.byteAt(1) && tape.byteAt(2) <= tape.byteAt(3);
    }

    private int weightsThatHold(Thing falling, int height, int least, int most) {
        int held = 0;
        int squeezed = 0;
        for (int share = least; share <= most; share++) {
            int weight = Math.max(1, falling.weight * share / 100);
            // A greater weight never squeezes less, so the search goes on where the last one ended.
            squeezed = cushion.squeezeOf(weight, height, squeezed);
            if (squeezed == TO_END) {
                return held;
            }
            if (cushion.blowAt(squeezed, weight) <= falling.mark) {
                held++;
            }
        }
        return held;
    }

    private void layKind(Book told, int kind, int area) {
        cushion.layFoam(told.foamAt(padChoice.foamOf(kind)), padChoice.thickOf(kind), area);
    }

    private int dayOfFall(int bears, int load) {
        for (int day = 0; day < tape.length; day++) {
            if (load > bears * tape.byteAt(day) / 100) {
                return day;
            }
        }
        return NONE;
    }

    private boolean tapeTellsLegs() {
        if (tape.length < LEG_BYTES || tape.length > LEG_BYTES * MOST_LEGS
                || tape.length % LEG_BYTES != 0) {
            return false;
        }
        for (int from = 0; from < tape.length; from += LEG_BYTES) {
            if (!isSide(tape.byteAt(from)) || sharesOfLeg(from) < 1) {
                return false;
            }
            for (int i = 0; i < LEG_HEIGHTS; i++) {
                if (!isHeight(heightOfLeg(from, i))) {
                    return false;
                }
            }
        }
        return true;
    }

    private int heightOfLeg(int from, int i) {
        return tape.byteAt(from + 1 + 2 * i) * 256 + tape.byteAt(from + 2 + 2 * i);
    }

    private int shareOfLeg(int from, int i) {
        return tape.byteAt(from + 1 + 2 * LEG_HEIGHTS + i);
    }

    private int sharesOfLeg(int from) {
        return shareOfLeg(from, 0) + shareOfLeg(from, 1) + shareOfLeg(from, 2);
    }

    private int heldSharesOfLeg(Thing sent, int from) {
        int held = 0;
        for (int i = 0; i < LEG_HEIGHTS; i++) {
            if (cushion.holds(sent, heightOfLeg(from, i))) {
                held += shareOfLeg(from, i);
            }
        }
        return held;
    }

    private static final class Tape {
        static final int MOST = 640;

        final byte[] bytes = new byte[MOST];
        int length = 0;

        void add(int four) {
            for (int shift = 24; shift >= 0 && length < MOST; shift -= 8) {
                bytes[length] = (byte) (four >> shift);
                length++;
            }
        }

        /** 0 to 255; NONE where the tape has no byte. */
        int byteAt(int place) {
            return place < 0 || place >= length || place >= MOST ? NONE : bytes[place] & 255;
        }
    }

    private static final class Foam {
        static final int MOST_POINTS = 8;

        final int[] percents = new int[MOST_POINTS];
        final int[] pushes = new int[MOST_POINTS];
        int points = 0;
        int keeps = 0;
        int price = 0;

        void addPoint(int percent, int pushed) {
            if (points < MOST_POINTS) {
                percents[points] = percent;
                pushes[points] = pushed;
                points++;
            }
        }

        int leastPercent() {
            return points < 1 || points > MOST_POINTS ? 0 : percents[points - 1] + 1;
        }

        int leastPush() {
            return points < 1 || points > MOST_POINTS ? 0 : pushes[points - 1];
        }

        int lastPercent() {
            return leastPercent() - 1;
        }

        /** PUSH of new foam; NONE behind the last POINT. */
        int pushAt(int percent) {
            if (percent < 0) {
                return NONE;
            }
            for (int i = 1; i < points && i < MOST_POINTS; i++) {
                int wide = percents[i] - percents[i - 1];
                if (percent <= percents[i] && wide > 0) {
                    int rise = pushes[i] - pushes[i - 1];
                    return pushes[i - 1] + rise * (percent - percents[i - 1]) / wide;
                }
            }
            return NONE;
        }
    }

    private static final class Thing {
        final int[] sizes = new int[SIZES];
        final Foam[] padFoams = new Foam[SIDES];
        final int[] padThicks = new int[SIDES];
        final int[] padAreas = new int[SIDES];
        int weight = 1;
        int mark = 0;

        /** null: no PAD there. */
        Foam foamOn(int side) {
            return isSide(side) ? padFoams[side] : null;
        }

        void putPad(int side, Foam foam, int thick, int area) {
            if (isSide(side)) {
                padFoams[side] = foam;
                padThicks[side] = thick;
                padAreas[side] = area;
            }
        }

        boolean goesInto(Box box, int margin) {
            for (int i = 0; i < SIZES; i++) {
                for (int j = 0; j < SIZES; j++) {
                    // i and j being two of 0, 1, 2, the third one is what is left of their sum.
                    if (i != j && fits(0, margin, box.room[i]) && fits(1, margin, box.room[j])
                            && fits(2, margin, box.room[SIZES - i - j])) {
                        return true;
                    }
                }
            }
            return false;
        }

        private boolean fits(int size, int margin, int room) {
            return sizes[size] + 2 * margin <= room;
        }
    }

    private static final class Box {
        final int[] room = new int[SIZES];
        int price = 0;
        int bears = 0;
    }

    private static final class Drop {
        int thing = 0;
        int side = 0;
        int height = 0;
        int times = 1;
    }

    private static final class Book {
        static final int MOST = 8;
        static final int MOST_DROPS = 20;

        final Foam[] foams = new Foam[MOST];
        final Thing[] things = new Thing[MOST];
        final Box[] boxed = new Box[MOST];
        final Drop[] drops = new Drop[MOST_DROPS];
        int foamCount = 0;
        int thingCount = 0;
        int boxCount = 0;
        int dropCount = 0;
        int lines = 0;
        int day = 0;

        Foam foamAt(int i) {
            return i < 0 || i >= foamCount || i >= MOST ? null : foams[i];
        }

        Thing thingAt(int i) {
            return i < 0 || i >= thingCount || i >= MOST ? null : things[i];
        }

        Box boxAt(int i) {
            return i < 0 || i >= boxCount || i >= MOST ? null : boxed[i];
        }

        Drop dropAt(int i) {
            return i < 0 || i >= dropCount || i >= MOST_DROPS ? null : drops[i];
        }

        void addFoam(Foam foam) {
            if (foamCount < MOST) {
                foams[foamCount] = foam;
                foamCount++;
            }
        }

        void addThing(Thing thing) {
            if (thingCount < MOST) {
                things[thingCount] = thing;
                thingCount++;
            }
        }

        void addBox(Box box) {
            if (boxCount < MOST) {
                boxed[boxCount] = box;
                boxCount++;
            }
        }

        void addDrop(Drop drop) {
            if (dropCount < MOST_DROPS) {
                drops[dropCount] = drop;
                dropCount++;
            }
        }
    }

    /** The TOKENS of a text, in rows. */
    private static final class Tokens {
        static final int MOST_BYTES = 600;
        // The kinds of the reserved WORDS go as RESERVED does.
        private static final String RESERVED =
                "foam thing box pad drop keeps price weighs size mark room bears side thick area from times ";
        static final int FOAM = 0;
        static final int THING = 1;
        static final int BOX = 2;
        static final int PAD = 3;
        static final int DROP = 4;
        static final int KEEPS = 5;
        static final int PRICE = 6;
        static final int WEIGHS = 7;
        static final int SIZE = 8;
        static final int MARK = 9;
        static final int ROOM = 10;
        static final int BEARS = 11;
        static final int SIDE = 12;
        static final int THICK = 13;
        static final int AREA = 14;
        static final int FROM = 15;
        static final int TIMES = 16;
        static final int NAME = 17;
        static final int NUMBER = 18;
        static final int SEMICOLON = 19;
        static final int COLON = 20;
        static final int NO_TOKEN = 21;
        static final int END = 22;
        private static final int MOST_LETTERS = 8;
        private static final int MOST_DIGITS = 5;

        private final long[] reserved = new long[NAME];
        private final int[] kinds = new int[MOST_BYTES];
        private final int[] places = new int[MOST_BYTES];
        private final long[] values = new long[MOST_BYTES];
        private int length = 0;
        private int endPlace = 0;

        Tokens() {
            int word = 0;
            long code = 0;
            for (int i = 0; i < RESERVED.length() && word < reserved.length; i++) {
                if (RESERVED.charAt(i) == ' ') {
                    reserved[word] = code;
                    word++;
                    code = 0;
                } else {
                    code = withLetter(code, RESERVED.charAt(i));
                }
            }
        }

        void scan(Tape tape) {
            length = 0;
            endPlace = Math.min(tape.length, MOST_BYTES);
            int at = 0;
            while (at < endPlace) {
                int sign = tape.byteAt(at);
                if (isLetter(sign) || isDigit(sign)) {
                    at = Math.max(at + 1, scanRun(tape, at));
                } else {
                    if (!isBlank(sign)) {
                        add(kindOfSign(sign), at, 0);
                    }
                    at++;
                }
            }
        }

        int kindAt(int i) {
            return i < 0 || i >= length || i >= MOST_BYTES ? END : kinds[i];
        }

        int placeAt(int i) {
            return i < 0 || i >= length || i >= MOST_BYTES ? endPlace : places[i];
        }

        /** A NUMBER's value, a WORD's code. */
        long valueAt(int i) {
            return i < 0 || i >= length || i >= MOST_BYTES ? 0 : values[i];
        }

        private void add(int kind, int place, long value) {
            if (length < MOST_BYTES) {
                kinds[length] = kind;
                places[length] = place;
                values[length] = value;
                length++;
            }
        }

        /** Where the run ends; it is read whole, behind byte 600 too. */
        private int scanRun(Tape tape, int from) {
            int letters = 0;
            int digits = 0;
            long code = 0;
            long number = 0;
            int at = from;
            while (at < tape.length) {
                int sign = tape.byteAt(at);
                if (isLetter(sign)) {
                    letters++;
                    code = withLetter(code, sign);
                } else if (isDigit(sign)) {
                    digits++;
                    number = number * 10 + sign - '0';
                } else {
                    break;
                }
                at++;
            }
            if (digits == 0 && letters <= MOST_LETTERS) {
                add(kindOfWord(code), from, code);
            } else {
                add(letters == 0 && digits <= MOST_DIGITS ? NUMBER : NO_TOKEN, from, number);
            }
            return at;
        }

        private int kindOfWord(long code) {
            for (int i = 0; i < reserved.length; i++) {
                if (reserved[i] == code) {
                    return i;
                }
            }
            return NAME;
        }

        private static int kindOfSign(int sign) {
            if (sign == ';') {
                return SEMICOLON;
            }
            return sign == ':' ? COLON : NO_TOKEN;
        }

        /** Five bits a letter: eight letters go into a long, and no two WORDS have one code. */
        private static long withLetter(long code, int letter) {
            return code * 32 + letter - 'a' + 1;
        }

        private static boolean isBlank(int sign) {
            return sign == 32 || sign == 10;
        }

        private static boolean isLetter(int sign) {
            return sign >= 'a' && sign <= 'z';
        }

        private static boolean isDigit(int sign) {
            return sign >= '0' && sign <= '9';
        }
    }

    /** Reads the tape as a BOOK. Its methods answer false where they met a FAULT. */
    private static final class BookReader {
        private static final int CAN_NOT_COME = 1;
        private static final int WRONG_NUMBER = 2;
        private static final int WRONG_NAME = 3;
        private static final int TOO_MANY = 4;
        private static final int MOST_NAMES = 3 * Book.MOST;

        private final Tokens tokens = new Tokens();
        private final long[] names = new long[MOST_NAMES];
        private final int[] nameKinds = new int[MOST_NAMES];
        private final int[] nameNumbers = new int[MOST_NAMES];
        private int nameCount = 0;
        private int at = 0;
        private int value = 0;
        private int faultToken = 0;
        int faultKind = 0;

        /** The BOOK; null: there is a FAULT. */
        Book readBook(Tape tape) {
            Book told = new Book();
            nameCount = 0;
            faultKind = 0;
            faultToken = 0;
            at = 0;
            tokens.scan(tape);
            while (!isNow(Tokens.END) && told.lines < Tape.MOST) {
                if (!readLine(told) || !readToken(Tokens.SEMICOLON)) {
                    return null;
                }
                told.lines++;
            }
            if (tape.length > Tokens.MOST_BYTES) {
                refuse(at, CAN_NOT_COME);
                return null;
            }
            return told;
        }

        int placeOfFault() {
            return tokens.placeAt(faultToken);
        }

        private boolean refuse(int token, int kind) {
            faultKind = kind;
            faultToken = token;
            return false;
        }

        private boolean isNow(int kind) {
            return tokens.kindAt(at) == kind;
        }

        private boolean readLine(Book told) {
            switch (tokens.kindAt(at)) {
                case Tokens.FOAM:
                    return readFoam(told);
                case Tokens.THING:
                    return readThing(told);
                case Tokens.BOX:
                    return readBox(told);
                case Tokens.PAD:
                    return readPad(told);
                case Tokens.DROP:
                    return readDrop(told);
                default:
                    return refuse(at, CAN_NOT_COME);
            }
        }

        private boolean readFoam(Book told) {
            if (!readFirstWord(told.foamCount, Book.MOST)
                    || !readNewName(Tokens.FOAM, told.foamCount)) {
                return false;
            }
            Foam foam = new Foam();
            for (int i = 0; i <= Foam.MOST_POINTS && (i < 2 || isNow(Tokens.NUMBER)); i++) {
                if (!readPoint(foam)) {
                    return false;
                }
            }
            if (!readNumberOf(Tokens.KEEPS, 0, 100)) {
                return false;
            }
            foam.keeps = value;
            if (!readNumberOf(Tokens.PRICE, 0, 100)) {
                return false;
            }
            foam.price = value;
            told.addFoam(foam);
            return true;
        }

        private boolean readPoint(Foam foam) {
            if (!readNumber(foam.leastPercent(), foam.points == 0 ? 0 : 95)) {
                return false;
            }
            if (foam.points >= Foam.MOST_POINTS) {
                return refuse(at - 1, TOO_MANY);
            }
            int percent = value;
            if (!readToken(Tokens.COLON) || !readNumber(foam.leastPush(), 60000)) {
                return false;
            }
            foam.addPoint(percent, value);
            return true;
        }

        private boolean readThing(Book told) {
            if (!readFirstWord(told.thingCount, Book.MOST)
                    || !readNewName(Tokens.THING, told.thingCount)
                    || !readNumberOf(Tokens.WEIGHS, 1, 60000)) {
                return false;
            }
            Thing thing = new Thing();
            thing.weight = value;
            if (!readSizesOf(Tokens.SIZE, thing.sizes) || !readNumberOf(Tokens.MARK, 1, 60000)) {
                return false;
            }
            thing.mark = value;
            told.addThing(thing);
            return true;
        }

        private boolean readBox(Book told) {
            if (!readFirstWord(told.boxCount, Book.MOST)
                    || !readNewName(Tokens.BOX, told.boxCount)) {
                return false;
            }
            Box box = new Box();
            if (!readSizesOf(Tokens.ROOM, box.room) || !readNumberOf(Tokens.PRICE, 0, 10000)) {
                return false;
            }
            box.price = value;
            if (!readNumberOf(Tokens.BEARS, 1, 60000)) {
                return false;
            }
            box.bears = value;
            told.addBox(box);
            return true;
        }

        private boolean readPad(Book told) {
            if (!readToken(Tokens.PAD) || !readToldName(Tokens.THING)) {
                return false;
            }
            Thing thing = told.thingAt(value);
            if (thing == null || !readNumberOf(Tokens.SIDE, 0, SIDES - 1)) {
                return false;
            }
            int side = value;
            if (thing.foamOn(side) != null) {
                return refuse(at - 1, TOO_MANY);
            }
            if (!readToldName(Tokens.FOAM)) {
                return false;
            }
            Foam foam = told.foamAt(value);
            if (!readNumberOf(Tokens.THICK, 10, 600)) {
                return false;
            }
            int thick = value;
            if (!readNumberOf(Tokens.AREA, 1, MOST_AREA)) {
                return false;
            }
            thing.putPad(side, foam, thick, value);
            return true;
        }

        private boolean readDrop(Book told) {
            if (!readFirstWord(told.dropCount, Book.MOST_DROPS) || !readToldName(Tokens.THING)) {
                return false;
            }
            Drop drop = new Drop();
            drop.thing = value;
            if (!readNumberOf(Tokens.SIDE, 0, SIDES - 1)) {
                return false;
            }
            drop.side = value;
            if (!readNumberOf(Tokens.FROM, 0, MOST_HEIGHT)) {
                return false;
            }
            drop.height = value;
            if (isNow(Tokens.TIMES)) {
                if (!readNumberOf(Tokens.TIMES, 1, 20)) {
                    return false;
                }
                drop.times = value;
            }
            told.addDrop(drop);
            return true;
        }

        /** Goes over a LINE's first WORD, which readLine has seen, if one more may come. */
        private boolean readFirstWord(int already, int most) {
            if (already >= most) {
                return refuse(at, TOO_MANY);
            }
            at++;
            return true;
        }

        private boolean readNewName(int kind, int number) {
            if (!readToken(Tokens.NAME)) {
                return false;
            }
            long name = tokens.valueAt(at - 1);
            if (placeOfName(name) != NONE || nameCount >= MOST_NAMES) {
                return refuse(at - 1, WRONG_NAME);
            }
            names[nameCount] = name;
            nameKinds[nameCount] = kind;
            nameNumbers[nameCount] = number;
            nameCount++;
            return true;
        }

        private boolean readToldName(int kind) {
            if (!readToken(Tokens.NAME)) {
                return false;
            }
            int place = placeOfName(tokens.valueAt(at - 1));
            if (place < 0 || place >= MOST_NAMES || nameKinds[place] != kind) {
                return refuse(at - 1, WRONG_NAME);
            }
            value = nameNumbers[place];
            return true;
        }

        private int placeOfName(long name) {
            for (int i = 0; i < nameCount && i < MOST_NAMES; i++) {
                if (names[i] == name) {
                    return i;
                }
            }
            return NONE;
        }

        private boolean readSizesOf(int word, int[] sizes) {
            if (!readToken(word)) {
                return false;
            }
            for (int i = 0; i < sizes.length; i++) {
                if (!readNumber(1, 9999)) {
                    return false;
                }
                sizes[i] = value;
            }
            return true;
        }

        private boolean readNumberOf(int word, int least, int most) {
            return readToken(word) && readNumber(least, most);
        }

        private boolean readNumber(int least, int most) {
            if (tokens.kindAt(at) != Tokens.NUMBER) {
                return refuse(at, CAN_NOT_COME);
            }
            value = (int) tokens.valueAt(at);
            if (value < least || value > most) {
                return refuse(at, WRONG_NUMBER);
            }
            at++;
            return true;
        }

        private boolean readToken(int kind) {
            if (tokens.kindAt(at) != kind) {
                return refuse(at, CAN_NOT_COME);
            }
            at++;
            return true;
        }
    }

    /** The one PAD on which a THING falls at the time, by rows of whole percents. */
    private static final class Cushion {
        private static final int PERCENTS = 96;
        private static final long MOST_BLOW = 2000000000L;
        private static final int FIRST_STEP = 16384;

        private final int[] fresh = new int[PERCENTS];
        private final int[] pushes = new int[PERCENTS];
        private final long[] stored = new long[PERCENTS];
        private int last = NONE;
        private long thick = 0;
        private long area = 0;
        private int keeps = 0;
        int kept = NEW_FOAM;

        void layPad(Thing thing, int side) {
            if (isSide(side)) {
                layFoam(thing.padFoams[side], thing.padThicks[side], thing.padAreas[side]);
            }
        }

        /** Lays new foam; null: none, on which all goes to the END. */
        void layFoam(Foam foam, int foamThick, int foamArea) {
            thick = foamThick;
            area = foamArea;
            keeps = foam == null ? 0 : foam.keeps;
            last = foam == null ? NONE : Math.min(foam.lastPercent(), PERCENTS - 1);
            for (int x = 0; foam != null && x <= last; x++) {
                fresh[x] = foam.pushAt(x);
            }
            wearTo(NEW_FOAM);
        }

        void wearTo(int newKept) {
            kept = newKept;
            for (int x = 0; x <= last; x++) {
                pushes[x] = fresh[x] * kept / 100;
                stored[x] = x == 0 ? 0 : stored[x - 1] + pushes[x - 1] + pushes[x];
            }
        }

        void wearByBlow() {
            wearTo(kept * keeps / 100);
        }

        /** The least squeeze, from a told one on; TO_END: none. */
        int squeezeOf(int weight, int height, int from) {
            for (int x = Math.max(from, 0); x <= last; x++) {
                if (stored[x] * area * thick >= 2L * weight * (100L * height + x * thick)) {
                    return x;
                }
            }
            return TO_END;
        }

        int blowOf(int weight, int height) {
            return blowAt(squeezeOf(weight, height, 0), weight);
        }

        int blowAt(int squeezed, int weight) {
            if (squeezed < 0 || squeezed > last || weight < 1) {
                return TO_END;
            }
            return (int) Math.min(MOST_BLOW, pushes[squeezed] * area * 10 / weight);
        }

        boolean holds(Thing falling, int height) {
            int hit = blowOf(falling.weight, height);
            return hit != TO_END && hit <= falling.mark;
        }

        /**
         * The greatest height with a BLOW of at most so much, not to the END; NONE: none. BLOWS
         * never get less by height, nor does what goes to the END come back, so halved steps do.
         */
        int greatestHeight(int weight, long most) {
            if (!isWithin(weight, 0, most)) {
                return NONE;
            }
            int height = 0;
            for (int step = FIRST_STEP; step > 0; step /= 2) {
                if (height + step <= MOST_HEIGHT && isWithin(weight, height + step, most)) {
                    height += step;
                }
            }
            return height;
        }

        private boolean isWithin(int weight, int height, long most) {
            int hit = blowOf(weight, height);
            return hit != TO_END && hit <= most;
        }
    }

    /** The cheapest PADS for a BOX, of KINDS that the tape tells. */
    private static final class PadChoice {
        private static final int MOST_KINDS = 10;

        private final int[] foams = new int[MOST_KINDS];
        private final int[] thicks = new int[MOST_KINDS];
        private final int[] prices = new int[MOST_KINDS];
        private final int[] costs = new int[MOST_KINDS];
        private final int[] chosen = new int[SIDES];
        final int[] latest = new int[SIDES];
        int kinds = 0;

        PadChoice() {
            for (int side = 0; side < SIDES; side++) {
                latest[side] = NONE;
            }
        }

        /** False: not as told. */
        boolean readKinds(Tape tape, Book told) {
            if (tape.length < 2 || tape.length > 2 * MOST_KINDS || tape.length % 2 != 0) {
                return false;
            }
            kinds = tape.length / 2;
            for (int kind = 0; kind < kinds; kind++) {
                int thick = 10 * tape.byteAt(2 * kind + 1);
                Foam foam = told.foamAt(tape.byteAt(2 * kind));
                if (foam == null || thick < 10 || thick > 600) {
                    return false;
                }
                foams[kind] = tape.byteAt(2 * kind);
                thicks[kind] = thick;
                prices[kind] = foam.price;
            }
            return true;
        }

        int foamOf(int kind) {
            return kind < 0 || kind >= MOST_KINDS ? NONE : foams[kind];
        }

        int thickOf(int kind) {
            return kind < 0 || kind >= MOST_KINDS ? 0 : thicks[kind];
        }

        /** A KIND that does not HOLD has no cost. */
        void judge(int kind, int area, boolean holds) {
            if (kind >= 0 && kind < MOST_KINDS) {
                costs[kind] = holds ? prices[kind] * area * thicks[kind] / 1000 : NONE;
            }
        }

        /** The cost; NONE: none do, and the latest choice stays. */
        int choose(Thing packed, Box around) {
            int sum = 0;
            // No size hinders another one: the cheapest pair across each is the cheapest six.
            for (int size = 0; size < SIZES; size++) {
                int cost = choosePair(size, around.room[size] - packed.sizes[size]);
                if (cost == NONE) {
                    return NONE;
                }
                sum += cost;
            }
            for (int side = 0; side < SIDES; side++) {
                latest[side] = chosen[side];
            }
            return sum;
        }

        private int choosePair(int size, int free) {
            int best = NONE;
            for (int i = 0; i < kinds; i++) {
                for (int j = 0; j < kinds; j++) {
                    if (costs[i] == NONE || costs[j] == NONE || thicks[i] + thicks[j] > free) {
                        continue;
                    }
                    if (best == NONE || costs[i] + costs[j] < best) {
                        best = costs[i] + costs[j];
                        chosen[2 * size] = i;
                        chosen[2 * size + 1] = j;
                    }
                }
            }
            return best;
        }
    }

    /** The cheapest BOXES for all THINGS of a BOOK. */
    private static final class BoxChoice {
        private final int[] fitting = new int[Book.MOST];
        private final int[] prices = new int[Book.MOST];
        private int thingCount = 0;
        private int boxCount = 0;
        int latestSet = 0;

        void take(Book told, int margin) {
            thingCount = Math.min(told.thingCount, Book.MOST);
            boxCount = Math.min(told.boxCount, Book.MOST);
            for (int i = 0; i < thingCount; i++) {
                fitting[i] = 0;
            }
            for (int j = 0; j < boxCount; j++) {
                Box box = told.boxAt(j);
                prices[j] = box == null ? 0 : box.price;
                for (int i = 0; i < thingCount; i++) {
                    Thing thing = told.thingAt(i);
                    if (box != null && thing != null && thing.goesInto(box, margin)) {
                        fitting[i] |= 1 << j;
                    }
                }
            }
        }

        /** The cost; NONE: none do, and the latest set stays. */
        int choose(int most) {
            int best = NONE;
            int bestSet = 0;
            for (int set = 1; set < 1 << boxCount; set++) {
                int cost = Integer.bitCount(set) > most ? NONE : costOf(set);
                if (cost != NONE && (best == NONE || cost < best)) {
                    best = cost;
                    bestSet = set;
                }
            }
            if (best != NONE) {
                latestSet = bestSet;
            }
            return best;
        }

        private int costOf(int set) {
            int sum = 0;
            for (int i = 0; i < thingCount; i++) {
                int cost = cheapestOf(fitting[i] & set);
                if (cost == NONE) {
                    return NONE;
                }
                sum += cost;
            }
            return sum;
        }

        private int cheapestOf(int set) {
            int best = NONE;
            for (int j = 0; j < boxCount; j++) {
                if ((set >> j & 1) == 1 && (best == NONE || prices[j] < best)) {
                    best = prices[j];
                }
            }
            return best;
        }
    }
}
