/** The edges of TEXTS (Terms, 3) and of promises 28 to 30. */
public final class TextEdgesTest {
    private static final int MIN = Integer.MIN_VALUE;
    private static final int MAX = Integer.MAX_VALUE;

    private static final Due due = new Due();
    private static final Acts lived = new Acts(due, Acts::lived);
    private static final Acts empty = new Acts(due, LacedHouse::new);
    private static final Acts sevenDogs = new Acts(due, () -> Acts.dogs(7));
    private static final Acts eightDogs = new Acts(due, () -> Acts.dogs(8));

    public static void main(String[] args) {
        feed();
        fullTape();
        whichBytes();
        wipe();
        tapeIsEmptyThen();
        emptyText();
        cellNumbers();
        measureNumbers();
        cordNumbers();
        guestNumbers();
        longNumbers();
        everyKindsWord();
        eighthAndNinthGuest();
        theFirstFaultCounts();
        endsTooEarly();
        longestTexts();
        bytesThatBeginNoToken();
        itemByItem();
        due.end();
    }

    private static LacedHouse withTape(int many) {
        LacedHouse x = new LacedHouse();
        Due.feed(x, " ".repeat(many));
        return x;
    }

    private static void feed() {
        for (int n = 1; n <= 4; n++) {
            int many = n;
            lived.taken("28: n " + n, x -> x.feed(0x20202020, many), 7 + n, "tape 7 > " + (7 + n));
            empty.taken("28: the first " + n, x -> x.feed(0x20202020, many), n, "tape 0 > " + n, "text -1 > " + (-1 - n));
        }
        for (int n : new int[] {0, -1, 5, 8, MIN, MAX}) {
            lived.refused("28: n " + n, x -> x.feed(0x20202020, n), Due.BEYOND);
        }
    }

    private static void fullTape() {
        for (int has = 115; has <= 120; has++) {
            int had = has;
            Acts tape = new Acts(due, () -> withTape(had));
            for (int n = 1; n <= 4; n++) {
                int many = n;
                if (has + n <= 120) {
                    tape.taken("28: " + has + " and " + n, x -> x.feed(0x20202020, many), has + n,
                        "tape " + has + " > " + (has + n), "text " + (-1 - has) + " > " + (-1 - has - n));
                } else {
                    tape.refused("28: " + has + " and " + n, x -> x.feed(0x20202020, many), Due.FULL);
                }
            }
            tape.refused("28: BEYOND is asked ahead of FULL, below", x -> x.feed(0, 0), Due.BEYOND);
            tape.refused("28: BEYOND is asked ahead of FULL, above", x -> x.feed(0, 5), Due.BEYOND);
            tape.refused("28: BEYOND is asked ahead of FULL, far above", x -> x.feed(0, MAX), Due.BEYOND);
        }
        LacedHouse y = withTape(120);
        y.wipe();
        due.is("28: there is room again", y.feed(0, 4), 4);
    }

    private static void whichBytes() {
        int cord = 'c' << 24 | 'o' << 16 | 'r' << 8 | 'd';
        LacedHouse x = new LacedHouse();
        x.feed(cord, 4);
        x.feed('x' << 8 | '5', 1);
        due.is("28: four bytes, the highest first; the lowest one of two", x.text(), 1);
        due.is("28: cord 5", x.set(0, 200), 5);
        x.feed('x' << 24 | 'd' << 16 | 'o' << 8 | 'g', 3);
        due.is("28: the three lowest", x.text(), 1);
        due.is("28: a dog", x.of(0, 0), Due.DOG);
        x.feed(cord, 4);
        x.feed('x' << 24 | 'x' << 16 | '7' << 8 | '8', 2);
        due.is("28: the two lowest", x.text(), 1);
        due.is("28: cord 78", x.set(0, 200), 78);
        x.feed(-1, 4);
        due.is("28: bytes of 255", x.text(), -1);
        x.feed(0xe4646f67, 4);
        due.is("28: a number below 0 has its highest byte, too", x.text(), -1);
        x.feed(0xe4646f67, 3);
        due.is("28: without it", x.text(), 1);
    }

    private static void wipe() {
        empty.taken("29: nothing", LacedHouse::wipe, 0);
        lived.taken("29: seven", LacedHouse::wipe, 7, "tape 7 > 0", "text 1 > -1", "text cord 77 > none");
        new Acts(due, () -> withTape(1)).taken("29: one", LacedHouse::wipe, 1, "tape 1 > 0", "text -2 > -1");
        new Acts(due, () -> withTape(120)).taken("29: 120", LacedHouse::wipe, 120, "tape 120 > 0", "text -121 > -1");
    }

    private static void tapeIsEmptyThen() {
        lived.taken("30: a TEXT", LacedHouse::text, 1, "cord 300 > 77", "tape 7 > 0", "text 1 > -1", "text cord 77 > none");
        Acts faulty = new Acts(due, () -> {
            LacedHouse x = Acts.lived();
            Due.feed(x, ";cell 3 3;dog;x");
            return x;
        });
        faulty.taken("30: a FAULT is no finding, and the tape is empty", LacedHouse::text, -1 - 21, "tape 22 > 0",
            "text -22 > -1");
        Acts full = new Acts(due, () -> withTape(120));
        full.taken("30: 120 blanks", LacedHouse::text, -1 - 120, "tape 120 > 0", "text -121 > -1");
    }

    private static void emptyText() {
        empty.taken("30: no byte", LacedHouse::text, -1);
        empty.taken("30: a blank", x -> Due.read(x, " "), -1 - 1);
        empty.taken("30: a SIGN alone", x -> Due.read(x, ";"), -1);
        empty.taken("30: a SIGN ahead", x -> Due.read(x, ";cord 5"), -1);
        empty.taken("30: a SIGN behind", x -> Due.read(x, "cord 5;"), -1 - 7);
        empty.taken("30: a SIGN and a blank behind", x -> Due.read(x, "cord 5; "), -1 - 8);
        empty.taken("30: two SIGNS", x -> Due.read(x, "cord 5;;cord 6"), -1 - 7);
    }

    private static void fault(Acts acts, String text, int place) {
        acts.taken("30: '" + text + "'", x -> Due.read(x, text), -1 - place);
    }

    private static void told(Acts acts, String text, int items, String... changes) {
        acts.taken("30: '" + text + "'", x -> Due.read(x, text), items, changes);
    }

    private static void cellNumbers() {
        told(empty, "cell 0 0", 1, "base 0 20 > 0");
        told(empty, "cell 0 40", 1, "base 0 20 > 40");
        told(empty, "cell 15 0", 1, "base 15 20 > 0");
        told(empty, "cell 15 40", 1, "base 15 20 > 40");
        fault(empty, "cell 16 0", 5);
        fault(empty, "cell 15 41", 8);
        fault(empty, "cell 0 41", 7);
        fault(empty, "cell 9999 0", 5);
        fault(empty, "cell 0 9999", 7);
        fault(empty, "cell -1 0", 5);
        fault(empty, "cell 0 -1", 7);
        fault(empty, "cell 0 1 2", 9);
        fault(empty, "cell 0;", 6);
        fault(empty, "cell;", 4);
    }

    private static void measureNumbers() {
        told(empty, "measure 0 16", 1, "list 0 26 > 16");
        told(empty, "measure 0 36", 1, "list 0 26 > 36");
        told(empty, "measure 5 16", 1, "list 5 26 > 16");
        told(empty, "measure 5 36", 1, "list 5 26 > 36");
        fault(empty, "measure 6 26", 8);
        fault(empty, "measure 5 15", 10);
        fault(empty, "measure 5 37", 10);
        fault(empty, "measure 0 15", 10);
        fault(empty, "measure 0 37", 10);
        fault(empty, "measure 0 0", 10);
        fault(empty, "measure 0;", 9);
        fault(empty, "measure 0 26 0", 13);
    }

    private static void cordNumbers() {
        told(empty, "cord 0", 1, "cord 200 > 0");
        told(empty, "cord 999", 1, "cord 200 > 999");
        told(empty, "cord 200", 1);
        fault(empty, "cord 1000", 5);
        fault(empty, "cord 9999", 5);
        fault(empty, "cord 10000", 5);
        fault(empty, "cord -1", 5);
        fault(empty, "cord 1 1", 7);
        fault(empty, "cord;", 4);
    }

    private static String[] first(int kind, int cell, int size, int aim) {
        return Acts.newGuest(0, kind, cell, size, aim);
    }

    private static void guestNumbers() {
        told(empty, "maid", 1, first(Due.MAID, 0, 10, 0));
        told(empty, "maid at 0", 1, first(Due.MAID, 0, 10, 0));
        told(empty, "maid at 15", 1, first(Due.MAID, 15, 10, 15));
        told(empty, "maid size 1", 1, first(Due.MAID, 0, 1, 0));
        told(empty, "maid size 40", 1, first(Due.MAID, 0, 40, 0));
        told(empty, "maid to 0", 1, first(Due.MAID, 0, 10, 0));
        told(empty, "maid to 15", 1, first(Due.MAID, 0, 10, 15));
        told(empty, "maid at 15 to 0", 1, first(Due.MAID, 15, 10, 0));
        told(empty, "maid at 15 size 40 to 15", 1, first(Due.MAID, 15, 40, 15));
        told(empty, "maid size 1 to 15", 1, first(Due.MAID, 0, 1, 15));
        fault(empty, "maid at 16", 8);
        fault(empty, "maid at -1", 8);
        fault(empty, "maid size 0", 10);
        fault(empty, "maid size 41", 10);
        fault(empty, "maid to 16", 8);
        fault(empty, "maid at 15 size 0", 16);
        fault(empty, "maid at 15 size 40 to 16", 22);
        fault(empty, "maid size 5 at 3", 12);
        fault(empty, "maid to 5 size 3", 10);
        fault(empty, "maid to 5 at 3", 10);
        fault(empty, "maid at 5 at 3", 10);
        fault(empty, "maid at size 3", 8);
        fault(empty, "maid 5", 5);
        fault(empty, "maid at 5 5", 10);
        fault(empty, "maid maid", 5);
    }

    private static void longNumbers() {
        told(empty, "cord 0000000000000000000000000000000000000000000000000000000000000000000000000000000000000000999", 1,
            "cord 200 > 999");
        told(empty, "maid size " + "0".repeat(100) + "40", 1, first(Due.MAID, 0, 40, 0));
        fault(empty, "maid size " + "0".repeat(110), 10);
        fault(empty, "cord 4294967296", 5);
        fault(empty, "cord 4294967396", 5);
        fault(empty, "cord 18446744073709551616", 5);
        fault(empty, "cord 18446744073709551716", 5);
        fault(empty, "cord " + "9".repeat(115), 5);
        fault(empty, "cell 4294967297 5", 5);
        fault(empty, "cell 1 4294967301", 7);
        fault(empty, "dog at 65536", 7);
    }

    private static void everyKindsWord() {
        String[] words = {"guest", "cook", "boy", "maid", "nurse", "dog", "explorer"};
        for (int kind = 0; kind < 7; kind++) {
            String word = words[kind];
            told(empty, word, 1, first(kind, 0, 10, 0));
            told(lived, ";" + word, 2, with(Acts.newGuest(3, kind, 0, 10, 0), "cord 300 > 77", "tape 7 > 0", "text 1 > -1",
                "text cord 77 > none"));
            fault(empty, word + "s", 0);
            fault(empty, word.substring(0, word.length() - 1), 0);
            fault(empty, word.substring(1), 0);
            fault(empty, word + word, 0);
            fault(empty, word + "at 3", 0);
            fault(empty, " " + word + " " + word, 2 + word.length());
        }
        for (String word : new String[] {"at", "size", "to", "hour", "home", "a", "z", "strain", "measures", "cords", "cel"}) {
            fault(empty, word + " 3", 0);
            fault(empty, "dog;" + word + " 3", 4);
        }
    }

    private static String[] with(String[] rows, String... more) {
        String[] all = java.util.Arrays.copyOf(rows, rows.length + more.length);
        System.arraycopy(more, 0, all, rows.length, more.length);
        return all;
    }

    private static void eighthAndNinthGuest() {
        told(sevenDogs, "cook at 3", 1, Acts.newGuest(7, Due.COOK, 3, 10, 3));
        fault(sevenDogs, "cook at 3;boy", 10);
        fault(sevenDogs, "cook at 3;cord 5; boy at 99", 18);
        fault(eightDogs, "cook", 0);
        fault(eightDogs, "  cook at 99", 2);
        fault(eightDogs, "cord 5;cook", 7);
        fault(eightDogs, "cooks", 0);
        told(eightDogs, "cord 5;cell 0 0;measure 0 16", 3, "cord 200 > 5", "base 0 20 > 0", "list 0 26 > 16");
        fault(empty, "dog;dog;dog;dog;dog;dog;dog;dog;dog", 32);
        fault(empty, "dog;dog;dog;dog;dog;dog;dog;dog at 16;dog", 35);
        LacedHouse x = new LacedHouse();
        due.is("30: eight in one TEXT", Due.read(x, "dog;dog;dog;dog;dog;dog;dog;boy to 15"), 8);
        due.is("30: the eighth one", x.of(7, 3), 15);
        LacedHouse h = Acts.dogs(8);
        h.change(2, 5, 1);
        due.is("30: one HOME counts, too", Due.read(h, "dog"), -1);
    }

    private static void theFirstFaultCounts() {
        fault(empty, "dog at 16 size 41 to 99", 7);
        fault(empty, "cell 16 41", 5);
        fault(empty, "x;y", 0);
        fault(empty, "cord 5;cell 16;#", 12);
        fault(empty, "dog #;cell 16", 4);
        lived.taken("30: 'cord 77' and 'x'", x -> Due.read(x, "x"), -1 - 7, "tape 7 > 0", "text 1 > -1", "text cord 77 > none");
    }

    private static void endsTooEarly() {
        for (String text : new String[] {"cell", "cell ", "cell 1", "cell 1  ", "measure", "measure 0", "measure 0 ", "cord",
            "cord   ", "dog at", "dog at ", "dog size", "dog to", "dog at 3 size", "dog at 3 size 4 to", "dog;", "dog; "}) {
            fault(empty, text, text.length());
        }
    }

    private static void longestTexts() {
        told(empty, "cord5" + ";cord5".repeat(19), 20, "cord 200 > 5");
        told(empty, "cord5" + ";cord5".repeat(18) + ";cord 6", 20, "cord 200 > 6");
        told(empty, " ".repeat(114) + "cord 9", 1, "cord 200 > 9");
        told(empty, "cord 9" + " ".repeat(114), 1, "cord 200 > 9");
        told(empty, "cord" + " ".repeat(115) + "9", 1, "cord 200 > 9");
        fault(empty, "cord" + " ".repeat(116), 120);
        fault(empty, "cord 9" + " ".repeat(113) + ";", 120);
        fault(empty, "cord 9" + " ".repeat(113) + "x", 119);
        fault(empty, "c".repeat(120), 0);
        fault(empty, "dog " + "c".repeat(116), 4);
        fault(empty, "1".repeat(120), 0);
        fault(empty, ";".repeat(120), 0);
    }

    private static void bytesThatBeginNoToken() {
        for (int b = 0; b < 256; b++) {
            char sign = (char) b;
            boolean letter = b >= 'a' && b <= 'z';
            boolean digit = b >= '0' && b <= '9';
            LacedHouse x = new LacedHouse();
            int answer = Due.read(x, "cord 5" + sign);
            int cord = x.set(0, 1);
            if (b == ' ') {
                due.is("30: a blank behind", answer, 1);
                due.is("30: cord 5", cord, 5);
            } else if (digit) {
                due.is("30: a digit behind", answer, 1);
                due.is("30: one more digit", cord, 50 + b - '0');
            } else {
                due.is("30: byte " + b + " behind", answer, b == ';' ? -1 - 7 : -1 - 6);
                due.is("30: nothing changes", cord, 200);
            }
            LacedHouse y = new LacedHouse();
            due.is("30: byte " + b + " within a WORD", Due.read(y, "co" + sign + "rd 5"), -1);
            LacedHouse z = new LacedHouse();
            int ahead = Due.read(z, sign + "cord 5");
            due.is("30: byte " + b + " ahead", ahead, b == ' ' ? 1 : -1);
            LacedHouse between = new LacedHouse();
            int want = b == ' ' || digit ? 1 : letter ? -1 : -1 - 4;
            due.is("30: byte " + b + " between", Due.read(between, "cord" + sign + "5"), want);
        }
    }

    private static void itemByItem() {
        LacedHouse x = new LacedHouse();
        due.is("30: the later one holds", Due.read(x, "cord 1;cord 2;cell 3 1;cell 3 2;measure 3 16;measure 3 17"), 6);
        due.is("30: cord", x.set(0, 200), 2);
        due.is("30: cell", x.cell(3, 20), 2);
        due.is("30: measure", x.listed(3), 17);
        due.is("30: SNAPPED or not, a TEXT is read", x.set(2, 1), 0);
        due.is("30: so", Due.read(x, "dog at 5"), 1);
        due.is("30: SNAPPED stays", x.now(3), 1);
        due.is("30: another TEXT", Due.read(x, "dog"), 1);
        due.is("30: another number", x.count(1), 2);
    }
}
