import java.util.ArrayList;
import java.util.List;

/** The edges of promises 31 to 37: spots and sheets. */
public final class SheetEdgesTest {
    private static final int MIN = Integer.MIN_VALUE;
    private static final int MAX = Integer.MAX_VALUE;

    private static final Due due = new Due();
    private static final Acts lived = new Acts(due, Acts::lived);
    private static final Acts empty = new Acts(due, LacedHouse::new);
    private static final Acts eightDogs = new Acts(due, () -> Acts.dogs(8));

    public static void main(String[] args) {
        hold();
        as();
        asFindingsInOrder();
        sheet();
        allAreNothingAgain();
        sheetRefused();
        sheetFindingsInOrder();
        write();
        writeRefused();
        lowestBits();
        copy();
        copyOntoItself();
        copyRefused();
        copyFindingsInOrder();
        load();
        loadRefused();
        judge();
        judgeRefused();
        due.end();
    }

    private static void hold() {
        lived.taken("31: SPOT 0, nothing", x -> x.hold(0, -1), 1, "spot 0 1 > -1");
        lived.taken("31: SPOT 0, guest 0", x -> x.hold(0, 0), 1, "spot 0 1 > 0");
        lived.taken("31: SPOT 0, the same", x -> x.hold(0, 1), 1);
        lived.taken("31: SPOT 9, the last one", x -> x.hold(9, 2), 1);
        lived.taken("31: SPOT 9, nothing", x -> x.hold(9, -1), 1, "spot 9 2 > -1");
        lived.taken("31: SPOT 5, nothing as before", x -> x.hold(5, -1), 1);
        lived.taken("31: the same one in another SPOT", x -> x.hold(5, 2), 1, "spot 5 -1 > 2");
        int[][] refused = {{-1, 0}, {10, 0}, {0, -2}, {0, 3}, {9, -2}, {9, 3}, {-1, -1}, {10, -1}, {MIN, 0}, {MAX, 0}, {0, MIN},
            {0, MAX}};
        for (int[] r : refused) {
            lived.refused("31: hold " + r[0] + " " + r[1], x -> x.hold(r[0], r[1]), Due.BEYOND);
        }
        empty.taken("31: nothing in a house with nobody", x -> x.hold(9, -1), 1);
        empty.refused("31: nobody is there", x -> x.hold(0, 0), Due.BEYOND);
        eightDogs.taken("31: the eighth one", x -> x.hold(9, 7), 1, "spot 9 -1 > 7");
        eightDogs.refused("31: no ninth one", x -> x.hold(9, 8), Due.BEYOND);
        LacedHouse y = Acts.dogs(8);
        for (int spot = 0; spot < 10; spot++) {
            due.is("31: SPOT " + spot, y.hold(spot, 7 - spot % 8), 1);
            due.is("31: so many", y.count(7), spot + 1);
        }
        for (int spot = 0; spot < 10; spot++) {
            due.is("31: what SPOT " + spot + " holds", y.as(spot, 0), 7 - spot % 8);
        }
    }

    private static void as() {
        lived.taken("32: SPOT 0, a cook as a guest", x -> x.as(0, 0), 1);
        lived.taken("32: SPOT 0, a cook as a cook", x -> x.as(0, 1), 1);
        lived.taken("32: SPOT 9, a boy, HOME, as a boy", x -> x.as(9, 2), 2);
        for (int kind = 2; kind < 7; kind++) {
            int asked = kind;
            lived.refused("32: a cook as KIND " + kind, x -> x.as(0, asked), Due.KIND);
        }
        int[] above = {-1, 0, 0, 2, 3, 0, 1};
        for (int kind = 0; kind < 7; kind++) {
            LacedHouse x = Acts.dogs(8);
            x.change(7, 0, kind);
            x.hold(3, 7);
            for (int asked = 0; asked < 7; asked++) {
                int k = kind;
                while (k >= 0 && k != asked) {
                    k = above[k];
                }
                due.is("32: KIND " + kind + " as " + asked, x.as(3, asked), k == asked ? 7 : Due.KIND);
            }
        }
    }

    private static void asFindingsInOrder() {
        int[][] refused = {{-1, 0}, {10, 0}, {0, -1}, {0, 7}, {9, -1}, {9, 7}, {MIN, 0}, {MAX, 0}, {0, MIN}, {0, MAX}};
        for (int[] r : refused) {
            lived.refused("32: as " + r[0] + " " + r[1], x -> x.as(r[0], r[1]), Due.BEYOND);
        }
        lived.refused("32: BEYOND is asked ahead of MISSING, below", x -> x.as(5, -1), Due.BEYOND);
        lived.refused("32: BEYOND is asked ahead of MISSING, above", x -> x.as(5, 7), Due.BEYOND);
        for (int kind = 0; kind < 7; kind++) {
            int asked = kind;
            lived.refused("32: SPOT 1 holds nothing", x -> x.as(1, asked), Due.MISSING);
            lived.refused("32: SPOT 8 holds nothing", x -> x.as(8, asked), Due.MISSING);
            empty.refused("32: SPOT 0 holds nothing", x -> x.as(0, asked), Due.MISSING);
        }
        LacedHouse y = Acts.dogs(1);
        y.hold(0, 0);
        y.hold(0, -1);
        due.is("32: it holds nothing any more", y.as(0, 5), Due.MISSING);
    }

    /** The changes when a sheet of these numbers becomes one of so many zeros. */
    private static String[] anew(int s, int bitsWas, int bits, int[] was, int n) {
        List<String> rows = new ArrayList<>();
        String row = "sheet " + s + " ";
        add(rows, row + "bits", String.valueOf(bitsWas), String.valueOf(bits));
        add(rows, row + "length", bitsWas == 0 ? "none" : "" + was.length, bits == 0 ? "none" : "" + n);
        for (int i = 0; i < Math.max(was.length, n); i++) {
            add(rows, row + "number " + i, i < was.length ? "" + was[i] : "none", i < n ? "0" : "none");
        }
        return rows.toArray(new String[0]);
    }

    private static void add(List<String> rows, String name, String was, String is) {
        if (!was.equals(is)) {
            rows.add(name + " " + was + " > " + is);
        }
    }

    private static void sheet() {
        int[] zero = {3, -1, 14};
        int[] none = {};
        for (int bits = 8; bits <= 32; bits *= 2) {
            for (int n : new int[] {0, 1, 3, 39, 40}) {
                int b = bits;
                lived.taken("33: sheet 0, " + bits + " bits, " + n, x -> x.sheet(0, b, n), n, anew(0, 8, bits, zero, n));
                lived.taken("33: sheet 2, " + bits + " bits, " + n, x -> x.sheet(2, b, n), n, anew(2, 32, bits, none, n));
                lived.taken("33: sheet 3, " + bits + " bits, " + n, x -> x.sheet(3, b, n), n, anew(3, 0, bits, none, n));
            }
        }
        for (int n : new int[] {0, 1, 39, 40}) {
            lived.taken("33: sheet 0 is MISSING then, n " + n, x -> x.sheet(0, 0, n), 0, anew(0, 8, 0, zero, 0));
            lived.taken("33: sheet 3 is MISSING still, n " + n, x -> x.sheet(3, 0, n), 0);
        }
    }

    private static LacedHouse fullOfSevens() {
        LacedHouse x = new LacedHouse();
        Due.tell(x, 1, 8, row(40, 7));
        return x;
    }

    private static void allAreNothingAgain() {
        Acts sevens = new Acts(due, SheetEdgesTest::fullOfSevens);
        sevens.taken("33: 40 anew", x -> x.sheet(1, 8, 40), 40, anew(1, 8, 8, row(40, 7), 40));
        sevens.taken("33: one, and 40 anew", x -> x.sheet(1, 16, 1) + x.sheet(1, 32, 40), 41, anew(1, 8, 32, row(40, 7), 40));
        sevens.taken("33: MISSING, and 40 anew", x -> x.sheet(1, 0, 0) + x.sheet(1, 8, 40), 40, anew(1, 8, 8, row(40, 7), 40));
    }

    private static void sheetRefused() {
        for (int bits : new int[] {0, 8, 16, 32}) {
            for (int s : new int[] {-1, 4, MIN, MAX}) {
                lived.refused("33: no sheet " + s + ", bits " + bits, x -> x.sheet(s, bits, 3), Due.BEYOND);
            }
            for (int s = 0; s < 4; s++) {
                int sheet = s;
                for (int n : new int[] {-1, -2, MIN}) {
                    lived.refused("33: sheet " + s + ", bits " + bits + ", n " + n, x -> x.sheet(sheet, bits, n), Due.SIZE);
                }
                for (int n : new int[] {41, 42, MAX}) {
                    lived.refused("33: sheet " + s + ", bits " + bits + ", n " + n, x -> x.sheet(sheet, bits, n), Due.BEYOND);
                }
            }
        }
        for (int bits : new int[] {-1, 1, 4, 7, 9, 15, 17, 24, 31, 33, 40, 64, -8, -16, -32, MIN, MAX}) {
            lived.refused("33: bits " + bits, x -> x.sheet(0, bits, 3), Due.BEYOND);
            lived.refused("33: bits " + bits + ", sheet 3", x -> x.sheet(3, bits, 0), Due.BEYOND);
        }
    }

    private static void sheetFindingsInOrder() {
        lived.refused("33: no such sheet is asked ahead of SIZE, below", x -> x.sheet(-1, 8, -1), Due.BEYOND);
        lived.refused("33: no such sheet is asked ahead of SIZE, above", x -> x.sheet(4, 8, -1), Due.BEYOND);
        lived.refused("33: other bits are asked ahead of SIZE", x -> x.sheet(0, 9, -1), Due.BEYOND);
        lived.refused("33: no such sheet is asked ahead of SIZE, bits 0", x -> x.sheet(4, 0, -1), Due.BEYOND);
    }

    private static void write() {
        lived.taken("34: number 0", x -> x.write(0, 0, 40), 1, "sheet 0 number 0 3 > 40");
        lived.taken("34: the last number", x -> x.write(0, 2, 0), 1, "sheet 0 number 2 14 > 0");
        lived.taken("34: as it was", x -> x.write(0, 1, -1), 1);
        lived.taken("34: of 16 bits", x -> x.write(1, 3, 7), 1, "sheet 1 number 3 99 > 7");
        Acts full = new Acts(due, () -> {
            LacedHouse x = new LacedHouse();
            x.sheet(3, 32, 40);
            return x;
        });
        full.taken("34: number 39", x -> x.write(3, 39, 9), 1, "sheet 3 number 39 0 > 9");
        full.refused("34: number 40", x -> x.write(3, 40, 9), Due.BEYOND);
    }

    private static void writeRefused() {
        for (int s : new int[] {-1, 4, MIN, MAX}) {
            lived.refused("34: no sheet " + s, x -> x.write(s, 0, 5), Due.BEYOND);
        }
        for (int i : new int[] {-1, 0, 1, 40, MIN, MAX}) {
            lived.refused("34: MISSING is asked ahead of number " + i, x -> x.write(3, i, 5), Due.MISSING);
            lived.refused("34: an empty sheet has no number " + i, x -> x.write(2, i, 5), Due.BEYOND);
        }
        for (int i : new int[] {-1, 3, 39, 40, MIN, MAX}) {
            lived.refused("34: sheet 0 has no number " + i, x -> x.write(0, i, 5), Due.BEYOND);
        }
        lived.refused("34: sheet 1 has no number 4", x -> x.write(1, 4, 5), Due.BEYOND);
        LacedHouse y = new LacedHouse();
        y.sheet(0, 8, 40);
        y.sheet(0, 8, 2);
        due.is("34: it has fewer now", y.write(0, 2, 5), Due.BEYOND);
        y.sheet(0, 0, 2);
        due.is("34: it is MISSING now", y.write(0, 0, 5), Due.MISSING);
    }

    private static void lowestBits() {
        int[][] rows = {
            // bits, written, what the look tells
            {8, 40, 40}, {8, 41, 99}, {8, 127, 99}, {8, 128, 99}, {8, 254, 99}, {8, 255, -1}, {8, 256, 0}, {8, 296, 40},
            {8, -1, -1}, {8, -2, 99}, {8, -128, 99}, {8, -129, 99}, {8, -256, 0}, {8, -255, 1}, {8, MIN, 0}, {8, MAX, -1},
            {16, 40, 40}, {16, 255, 99}, {16, 256, 99}, {16, 296, 99}, {16, 32767, 99}, {16, 32768, 99}, {16, 65535, -1},
            {16, 65536, 0}, {16, 65576, 40}, {16, -1, -1}, {16, -65536, 0}, {16, -65535, 1}, {16, -256, 99}, {16, MIN, 0},
            {16, MAX, -1},
            {32, 40, 40}, {32, 255, 99}, {32, 256, 99}, {32, 65535, 99}, {32, 65536, 99}, {32, 65576, 99}, {32, -1, -1},
            {32, MIN, 99}, {32, MAX, 99}, {32, MIN + 40, 99},
        };
        for (int[] r : rows) {
            List<String> told = new Look(() -> {
                LacedHouse x = new LacedHouse();
                x.sheet(1, r[0], 2);
                x.write(1, 1, r[1]);
                return x;
            }).rows();
            due.holds("34: " + r[1] + " in " + r[0] + " bits", told.contains("sheet 1 number 1 " + r[2]));
            due.holds("34: the other one stays", told.contains("sheet 1 number 0 0"));
        }
    }

    private static LacedHouse twoSheets() {
        LacedHouse x = new LacedHouse();
        Due.tell(x, 0, 16, 1, 2, 3, 4, 5);
        Due.tell(x, 3, 16, 11, 12, 13, 14);
        return x;
    }

    private static void copy() {
        Acts two = new Acts(due, SheetEdgesTest::twoSheets);
        two.taken("35: none, from 0 to 0", x -> x.copy(0, 0, 3, 0, 0), 0);
        two.taken("35: none, from the end to the end", x -> x.copy(0, 5, 3, 4, 0), 0);
        two.taken("35: the first to the first", x -> x.copy(0, 0, 3, 0, 1), 1, "sheet 3 number 0 11 > 1");
        two.taken("35: the last to the last", x -> x.copy(0, 4, 3, 3, 1), 1, "sheet 3 number 3 14 > 5");
        two.taken("35: as many as the other one has", x -> x.copy(0, 1, 3, 0, 4), 4, "sheet 3 number 0 11 > 2",
            "sheet 3 number 1 12 > 3", "sheet 3 number 2 13 > 4", "sheet 3 number 3 14 > 5");
        two.taken("35: all of the other one", x -> x.copy(3, 0, 0, 1, 4), 4, "sheet 0 number 1 2 > 11",
            "sheet 0 number 2 3 > 12", "sheet 0 number 3 4 > 13", "sheet 0 number 4 5 > 14");
        lived.taken("35: none of an empty sheet to itself", x -> x.copy(2, 0, 2, 0, 0), 0);
        Acts full = new Acts(due, () -> {
            LacedHouse x = new LacedHouse();
            x.sheet(0, 8, 40);
            x.sheet(1, 8, 40);
            x.write(0, 39, 7);
            return x;
        });
        full.taken("35: 40 of 40", x -> x.copy(0, 0, 1, 0, 40), 40, "sheet 1 number 39 0 > 7");
        full.refused("35: 41 of 40", x -> x.copy(0, 0, 1, 0, 41), Due.BEYOND);
    }

    private static void copyOntoItself() {
        Acts two = new Acts(due, SheetEdgesTest::twoSheets);
        two.taken("35: up, as they all were", x -> x.copy(0, 0, 0, 1, 4), 4, "sheet 0 number 1 2 > 1", "sheet 0 number 2 3 > 2",
            "sheet 0 number 3 4 > 3", "sheet 0 number 4 5 > 4");
        two.taken("35: down, as they all were", x -> x.copy(0, 1, 0, 0, 4), 4, "sheet 0 number 0 1 > 2",
            "sheet 0 number 1 2 > 3", "sheet 0 number 2 3 > 4", "sheet 0 number 3 4 > 5");
        two.taken("35: in its place", x -> x.copy(0, 0, 0, 0, 5), 5);
        two.taken("35: up by two", x -> x.copy(0, 0, 0, 2, 3), 3, "sheet 0 number 2 3 > 1", "sheet 0 number 3 4 > 2",
            "sheet 0 number 4 5 > 3");
        two.refused("35: up, one too many", x -> x.copy(0, 0, 0, 1, 5), Due.BEYOND);
        two.refused("35: down, one too many", x -> x.copy(0, 1, 0, 0, 5), Due.BEYOND);
    }

    private static void copyRefused() {
        Acts two = new Acts(due, SheetEdgesTest::twoSheets);
        int[][] refused = {
            // from, to, n: sheet 0 has 5, sheet 3 has 4
            {-1, 0, 0}, {0, -1, 0}, {0, 0, -1}, {-1, 0, 1}, {0, -1, 1}, {-1, -1, -1}, {6, 0, 0}, {0, 5, 0}, {5, 0, 1}, {0, 4, 1},
            {0, 0, 5}, {2, 0, 4}, {0, 1, 4}, {4, 0, 2}, {0, 3, 2}, {1, 1, 4}, {-1, 0, 2}, {0, -1, 2}, {5, 4, -1}, {1, 1, -1},
            {MAX, 0, 0}, {0, MAX, 0}, {0, 0, MAX}, {MAX, 0, 1}, {0, MAX, 1}, {1, 0, MAX}, {0, 1, MAX}, {MAX, MAX, MAX},
            {MAX, MAX, 2}, {MIN, 0, 0}, {0, MIN, 0}, {0, 0, MIN}, {MIN, MIN, MIN}, {MIN, 0, MAX}, {1, 1, MIN},
        };
        for (int[] r : refused) {
            two.refused("35: copy from " + r[0] + " to " + r[1] + " of " + r[2], x -> x.copy(0, r[0], 3, r[1], r[2]), Due.BEYOND);
        }
    }

    private static void copyFindingsInOrder() {
        for (int s : new int[] {-1, 4, MIN, MAX}) {
            lived.refused("35: no sheet " + s, x -> x.copy(s, 0, 0, 0, 0), Due.BEYOND);
            lived.refused("35: no other sheet " + s, x -> x.copy(0, 0, s, 0, 0), Due.BEYOND);
            lived.refused("35: no sheet " + s + " is asked ahead of MISSING", x -> x.copy(s, 0, 3, 0, 0), Due.BEYOND);
            lived.refused("35: no other sheet " + s + " is asked ahead of MISSING", x -> x.copy(3, 0, s, 0, 0), Due.BEYOND);
        }
        lived.refused("35: from one that is MISSING", x -> x.copy(3, 0, 0, 0, 0), Due.MISSING);
        lived.refused("35: to one that is MISSING", x -> x.copy(0, 0, 3, 0, 0), Due.MISSING);
        lived.refused("35: both are", x -> x.copy(3, 0, 3, 0, 0), Due.MISSING);
        lived.refused("35: MISSING is asked ahead of places", x -> x.copy(0, -1, 3, -1, -1), Due.MISSING);
        lived.refused("35: 8 and 16 bits", x -> x.copy(0, 0, 1, 0, 1), Due.KIND);
        lived.refused("35: 16 and 8 bits", x -> x.copy(1, 0, 0, 0, 1), Due.KIND);
        lived.refused("35: 16 and 32 bits, none", x -> x.copy(1, 0, 2, 0, 0), Due.KIND);
        lived.refused("35: 32 and 8 bits, none", x -> x.copy(2, 0, 0, 0, 0), Due.KIND);
        lived.refused("35: KIND is asked ahead of places below", x -> x.copy(0, -1, 1, -1, -1), Due.KIND);
        lived.refused("35: KIND is asked ahead of places above", x -> x.copy(0, 99, 1, 99, 99), Due.KIND);
    }

    private static Acts told(int bits, int... numbers) {
        return new Acts(due, () -> {
            LacedHouse x = new LacedHouse();
            Due.tell(x, 3, bits, numbers);
            return x;
        });
    }

    private static String[] bases(int many, int base) {
        String[] rows = new String[many];
        for (int c = 0; c < many; c++) {
            rows[c] = "base " + c + " 20 > " + base;
        }
        return rows;
    }

    private static int[] row(int many, int v) {
        int[] row = new int[many];
        java.util.Arrays.fill(row, v);
        return row;
    }

    private static void load() {
        lived.taken("36: up to -1", x -> x.load(0), 1, "base 0 20 > 3");
        lived.taken("36: up to 41", x -> x.load(1), 3, "base 0 20 > 3", "base 1 20 > 0", "base 2 20 > 14");
        lived.taken("36: none of none", x -> x.load(2), 0);
        for (int bits = 8; bits <= 32; bits *= 2) {
            told(bits, 0, 40, 41, 5).taken("36: 0 and 40, not 41", x -> x.load(3), 2, "base 0 20 > 0", "base 1 20 > 40");
            told(bits, 40, 0, -1, 5).taken("36: 40 and 0, not -1", x -> x.load(3), 2, "base 0 20 > 40", "base 1 20 > 0");
            told(bits, 41).taken("36: not 41", x -> x.load(3), 0);
            told(bits, -1).taken("36: not -1", x -> x.load(3), 0);
        }
        told(8, row(15, 7)).taken("36: 15", x -> x.load(3), 15, bases(15, 7));
        told(8, row(16, 7)).taken("36: 16", x -> x.load(3), 16, bases(16, 7));
        told(8, row(17, 7)).taken("36: of 17 for which there are CELLS", x -> x.load(3), 16, bases(16, 7));
        told(8, row(40, 7)).taken("36: of 40 for which there are CELLS", x -> x.load(3), 16, bases(16, 7));
        int[] bad = row(17, 7);
        bad[16] = 99;
        told(8, bad).taken("36: the 17th doesn't matter", x -> x.load(3), 16, bases(16, 7));
        bad[15] = 41;
        told(8, bad).taken("36: the 16th isn't 0 to 40", x -> x.load(3), 15, bases(15, 7));
        told(16, 256).taken("36: 256 in 16 bits is 256", x -> x.load(3), 0);
        told(8, 256).taken("36: 256 in 8 bits is 0", x -> x.load(3), 1, "base 0 20 > 0");
        told(32, MIN).taken("36: the least", x -> x.load(3), 0);
        told(32, MAX).taken("36: the greatest", x -> x.load(3), 0);
    }

    private static void loadRefused() {
        for (int s : new int[] {-1, 4, MIN, MAX}) {
            lived.refused("36: no sheet " + s, x -> x.load(s), Due.BEYOND);
        }
        lived.refused("36: sheet 3", x -> x.load(3), Due.MISSING);
        for (int s = 0; s < 4; s++) {
            int sheet = s;
            empty.refused("36: all are MISSING at first", x -> x.load(sheet), Due.MISSING);
        }
    }

    private static void judge() {
        lived.taken("37: the second isn't so", x -> x.judge(0), 2);
        lived.taken("37: there is no fourth one", x -> x.judge(1), 4);
        lived.taken("37: nothing told, all so", x -> x.judge(2), 0);
        LacedHouse y = Acts.dogs(8);
        Due.tell(y, 0, 8, 0, 1, 2, 3, 4, 5, 6, 7);
        due.is("37: all eight", y.judge(0), 0);
        for (int g = 0; g < 8; g++) {
            y.write(0, g, g + 1);
            due.is("37: number " + g + " one more", y.judge(0), 1 + g);
            y.write(0, g, g - 1);
            due.is("37: number " + g + " one less", y.judge(0), 1 + g);
            y.write(0, g, g);
        }
        y.write(0, 2, 9);
        y.write(0, 6, 9);
        due.is("37: the first that isn't so", y.judge(0), 3);
        Due.tell(y, 1, 16, 0, 1, 2, 3, 4, 5, 6, 7, 0);
        due.is("37: a ninth number, and no guest", y.judge(1), 9);
        y.sheet(2, 8, 40);
        due.is("37: 40 numbers", y.judge(2), 2);
        Due.tell(y, 3, 32, 0, 1, 2);
        due.is("37: fewer numbers than guests", y.judge(3), 0);
        y.change(1, 5, 1);
        due.is("37: HOME or not", y.judge(3), 0);
        LacedHouse z = new LacedHouse();
        z.sheet(0, 8, 0);
        z.sheet(1, 8, 1);
        due.is("37: nobody there, nothing told", z.judge(0), 0);
        due.is("37: nobody there, but told", z.judge(1), 1);
        z.guest(Due.DOG, 15);
        Due.tell(z, 1, 8, 15);
        due.is("37: AT 15", z.judge(1), 0);
        Due.tell(z, 1, 8, 15 + 256);
        due.is("37: the lowest bits", z.judge(1), 0);
        Due.tell(z, 1, 16, 15 + 256);
        due.is("37: not of 16 bits", z.judge(1), 1);
        Due.tell(z, 1, 8, -1);
        due.is("37: -1 is no CELL and not any", z.judge(1), 1);
    }

    private static void judgeRefused() {
        for (int s : new int[] {-1, 4, MIN, MAX}) {
            lived.refused("37: no sheet " + s, x -> x.judge(s), Due.BEYOND);
        }
        lived.refused("37: sheet 3", x -> x.judge(3), Due.MISSING);
        empty.refused("37: sheet 0", x -> x.judge(0), Due.MISSING);
    }
}
