import java.nio.charset.StandardCharsets;
import java.util.NoSuchElementException;

/** What the tests share: answers compared with the ones due, and bytes fed to the tape. */
final class Due {
    static final long THROWN = Long.MIN_VALUE;

    private final String test;
    private int wrong = 0;
    private int calls = 0;

    Due(String test) {
        this.test = test;
    }

    void is(String call, long got, long want) {
        calls++;
        if (got != want) {
            wrong++;
            if (wrong <= 40) {
                System.out.println(test + ": " + call + " answered " + got + ", due is " + want);
            }
        }
    }

    void is(String call, boolean got, boolean want) {
        is(call, got ? 1 : 0, want ? 1 : 0);
    }

    void close() {
        System.out.println(test + ": " + calls + " answers, " + wrong + " not as due");
        if (wrong != 0 || calls == 0) {
            System.exit(1);
        }
    }

    /** Puts the bytes behind the tape, with feed and end alone. */
    static void tape(FoamArms x, byte[] bytes) {
        int before = x.count(2);
        for (int from = 0; from < bytes.length; from += 20) {
            int[] five = new int[5];
            for (int i = 0; i < 20; i++) {
                int b = from + i < bytes.length ? bytes[from + i] & 255 : 0;
                five[i / 4] = five[i / 4] << 8 | b;
            }
            if (x.feed(five[0], five[1], five[2], five[3], five[4]) == FoamArms.NONE) {
                throw new IllegalStateException("the tape is full");
            }
        }
        if (!x.end(before + bytes.length)) {
            throw new IllegalStateException("the tape can't end there");
        }
    }

    static void tape(FoamArms x, int... bytes) {
        byte[] row = new byte[bytes.length];
        for (int i = 0; i < row.length; i++) {
            row[i] = (byte) bytes[i];
        }
        tape(x, row);
    }

    static int book(FoamArms x, String text) {
        tape(x, text.getBytes(StandardCharsets.ISO_8859_1));
        return x.book();
    }

    /** A new object with one BOOK, which must be without FAULT. */
    static FoamArms with(String text) {
        FoamArms x = new FoamArms();
        if (book(x, text) < 0) {
            throw new IllegalStateException("fault " + x.fault() + " in " + text);
        }
        return x;
    }

    static long journey(FoamArms x, int thing, int t) {
        try {
            return x.journey(thing, t);
        } catch (NoSuchElementException e) {
            return THROWN;
        }
    }
}
