/** Counts answers that are not the ones that are due, tells them, and ends the test. */
final class Due {
    static final int BEYOND = -1000001;
    static final int FULL = -1000002;
    static final int KIND = -1000003;
    static final int NONE = -1000004;
    static final int STATE = -1000005;
    static final int MISSING = -1000006;
    static final int SIZE = -1000007;

    static final int GUEST = 0;
    static final int COOK = 1;
    static final int BOY = 2;
    static final int MAID = 3;
    static final int NURSE = 4;
    static final int DOG = 5;
    static final int EXPLORER = 6;

    private int asked = 0;
    private int wrong = 0;

    void is(String what, long got, long want) {
        asked++;
        if (got != want) {
            wrong++;
            System.out.println(what + " answered " + got + ", due is " + want);
        }
    }

    void holds(String what, boolean so) {
        is(what, so ? 1 : 0, 1);
    }

    void same(String what, Object got, Object want) {
        asked++;
        if (!got.equals(want)) {
            wrong++;
            System.out.println(what + ": " + got + ", due is " + want);
        }
    }

    void end() {
        System.out.println(asked + " answers, " + wrong + " not as due");
        if (wrong != 0) {
            System.exit(1);
        }
    }

    /** Puts a text on the tape, four bytes at a time. */
    static void feed(LacedHouse x, String text) {
        for (int i = 0; i < text.length(); i += 4) {
            int n = Math.min(4, text.length() - i);
            int bytes = 0;
            for (int k = 0; k < n; k++) {
                bytes = bytes << 8 | text.charAt(i + k);
            }
            x.feed(bytes, n);
        }
    }

    /** What text() answers to a text. */
    static int read(LacedHouse x, String text) {
        if (text.length() > 120) {
            throw new IllegalStateException("a test's own text is too long: " + text);
        }
        feed(x, text);
        return x.text();
    }

    /** A house that was told a text. */
    static LacedHouse told(String text) {
        LacedHouse x = new LacedHouse();
        int answer = read(x, text);
        if (answer < 0) {
            throw new IllegalStateException("a test's own text has a fault: " + text);
        }
        return x;
    }

    /** Makes a sheet of some bits that tells these numbers. */
    static void tell(LacedHouse x, int s, int bits, int... numbers) {
        x.sheet(s, bits, numbers.length);
        for (int i = 0; i < numbers.length; i++) {
            x.write(s, i, numbers[i]);
        }
    }
}
