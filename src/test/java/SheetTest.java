/** Promises 31 to 37: spots and sheets. */
public final class SheetTest {
    private static final Due due = new Due();

    public static void main(String[] args) {
        spots();
        kindsUnderKinds();
        sheets();
        writing();
        copying();
        copyFindings();
        loading();
        judging();
        due.end();
    }

    private static void spots() {
        LacedHouse x = new LacedHouse();
        due.is("no guest 0", x.hold(0, 0), Due.BEYOND);
        due.is("nothing", x.hold(0, -1), 1);
        x.guest(Due.BOY, 3);
        x.guest(Due.DOG, 3);
        due.is("hold 0", x.hold(0, 1), 1);
        due.is("hold 9", x.hold(9, 0), 1);
        due.is("the same in another", x.hold(4, 0), 1);
        due.is("three", x.count(7), 3);
        due.is("as dog", x.as(0, 5), 1);
        due.is("as boy", x.as(9, 2), 0);
        due.is("let go", x.hold(0, -1), 1);
        due.is("two", x.count(7), 2);
        due.is("missing", x.as(0, 5), Due.MISSING);
        due.is("no spot -1", x.hold(-1, 0), Due.BEYOND);
        due.is("no spot 10", x.hold(10, 0), Due.BEYOND);
        due.is("no guest -2", x.hold(1, -2), Due.BEYOND);
        due.is("no guest 2", x.hold(1, 2), Due.BEYOND);
        due.is("as: no spot -1", x.as(-1, 0), Due.BEYOND);
        due.is("as: no spot 10", x.as(10, 0), Due.BEYOND);
        due.is("as: no kind -1, asked first", x.as(0, -1), Due.BEYOND);
        due.is("as: no kind 7, asked first", x.as(0, 7), Due.BEYOND);
        due.is("kind", x.as(9, 5), Due.KIND);
        x.change(0, 0, Due.DOG);
        due.is("another kind now", x.as(9, 5), 0);
        due.is("not what it was", x.as(9, 2), Due.KIND);
    }

    private static void kindsUnderKinds() {
        int[] mayBe = {0b0000001, 0b0000011, 0b0000101, 0b0001101, 0b0011101, 0b0100001, 0b1000011};
        for (int kind = 0; kind < 7; kind++) {
            LacedHouse x = new LacedHouse();
            x.guest(kind, 0);
            x.hold(2, 0);
            for (int wanted = 0; wanted < 7; wanted++) {
                boolean may = (mayBe[kind] >> wanted & 1) == 1;
                due.is("kind " + kind + " as " + wanted, x.as(2, wanted), may ? 0 : Due.KIND);
            }
        }
    }

    private static void sheets() {
        LacedHouse x = new LacedHouse();
        due.is("8 bits", x.sheet(0, 8, 40), 40);
        due.is("16 bits", x.sheet(3, 16, 0), 0);
        due.is("32 bits", x.sheet(1, 32, 5), 5);
        due.is("a sheet of none is none that is missing", x.judge(3), 0);
        due.is("bits 0", x.sheet(1, 0, 7), 0);
        due.is("missing then", x.judge(1), Due.MISSING);
        due.is("no sheet -1", x.sheet(-1, 8, 3), Due.BEYOND);
        due.is("no sheet 4", x.sheet(4, 8, 3), Due.BEYOND);
        int[] noBits = {-8, 1, 4, 7, 9, 24, 31, 33, 64, Integer.MIN_VALUE, Integer.MAX_VALUE};
        for (int bits : noBits) {
            due.is("no bits " + bits, x.sheet(0, bits, 3), Due.BEYOND);
        }
        due.is("bits are asked ahead of the size", x.sheet(0, 9, -3), Due.BEYOND);
        due.is("the sheet, too", x.sheet(4, 8, -3), Due.BEYOND);
        due.is("size", x.sheet(0, 8, -1), Due.SIZE);
        due.is("size with bits 0", x.sheet(0, 0, -1), Due.SIZE);
        due.is("least size", x.sheet(0, 32, Integer.MIN_VALUE), Due.SIZE);
        due.is("41", x.sheet(0, 8, 41), Due.BEYOND);
        due.is("41 with bits 0", x.sheet(0, 0, 41), Due.BEYOND);
        due.is("most", x.sheet(0, 8, Integer.MAX_VALUE), Due.BEYOND);
        due.is("it has 40 still", x.write(0, 39, 1), 1);
        due.is("size is counted", x.status(6), 3);
        x.sheet(0, 8, 40);
        due.is("all 0 again", x.load(0), 16);
    }

    private static void writing() {
        LacedHouse x = new LacedHouse();
        due.is("no sheet -1", x.write(-1, 0, 0), Due.BEYOND);
        due.is("no sheet 4", x.write(4, 0, 0), Due.BEYOND);
        due.is("missing, asked ahead of the number", x.write(0, -1, 0), Due.MISSING);
        x.sheet(0, 8, 3);
        due.is("no number -1", x.write(0, -1, 0), Due.BEYOND);
        due.is("no number 3", x.write(0, 3, 0), Due.BEYOND);
        due.is("number 2", x.write(0, 2, 9), 1);
        x.write(0, 0, 256 + 33);
        x.write(0, 1, -256 + 7);
        due.is("lowest 8 bits", x.load(0), 3);
        due.is("33", x.cell(0, 20), 33);
        due.is("7", x.cell(1, 20), 7);
        due.is("9", x.cell(2, 20), 9);
        x.sheet(0, 16, 2);
        x.write(0, 0, 65536 + 12);
        x.write(0, 1, 256 + 12);
        due.is("lowest 16 bits", x.load(0), 1);
        due.is("12", x.cell(0, 20), 12);
        x.sheet(0, 32, 1);
        x.write(0, 0, 65536 + 12);
        due.is("32 bits", x.load(0), 0);
        Due.tell(x, 0, 8, 128 + 5);
        due.is("no fewer than 8 bits", x.load(0), 0);
        Due.tell(x, 0, 16, 32768 + 5);
        due.is("no fewer than 16 bits", x.load(0), 0);
        Due.tell(x, 0, 32, Integer.MIN_VALUE + 5);
        due.is("no fewer than 32 bits", x.load(0), 0);
        x.sheet(0, 16, 0);
        due.is("a sheet of none has no number 0", x.write(0, 0, 0), Due.BEYOND);
    }

    private static void baseRow(LacedHouse x, int s, int... want) {
        x.load(s);
        for (int c = 0; c < want.length; c++) {
            int base = x.wide(c, 26);
            due.is("base " + c, base, want[c]);
        }
    }

    private static void copying() {
        LacedHouse x = new LacedHouse();
        Due.tell(x, 0, 8, 1, 2, 3, 4, 5, 6);
        Due.tell(x, 1, 8, 11, 12, 13, 14);
        due.is("copy", x.copy(0, 1, 1, 2, 2), 2);
        baseRow(x, 1, 11, 12, 2, 3);
        due.is("onto itself, up", x.copy(0, 0, 0, 2, 4), 4);
        baseRow(x, 0, 1, 2, 1, 2, 3, 4);
        Due.tell(x, 0, 8, 1, 2, 3, 4, 5, 6);
        due.is("onto itself, down", x.copy(0, 2, 0, 0, 4), 4);
        baseRow(x, 0, 3, 4, 5, 6, 5, 6);
        due.is("none", x.copy(0, 6, 1, 4, 0), 0);
        due.is("all", x.copy(1, 0, 0, 2, 4), 4);
        baseRow(x, 0, 3, 4, 11, 12, 2, 3);
    }

    private static void copyFindings() {
        LacedHouse x = new LacedHouse();
        due.is("no sheet -1", x.copy(-1, 0, 0, 0, 0), Due.BEYOND);
        due.is("no sheet 4", x.copy(4, 0, 0, 0, 0), Due.BEYOND);
        due.is("nor to -1", x.copy(0, 0, -1, 0, 0), Due.BEYOND);
        due.is("nor to 4, asked first", x.copy(0, 0, 4, 0, 0), Due.BEYOND);
        due.is("both missing", x.copy(0, 0, 1, 0, 0), Due.MISSING);
        x.sheet(0, 8, 5);
        due.is("to one that is missing", x.copy(0, 0, 1, 0, 0), Due.MISSING);
        due.is("from one that is missing", x.copy(1, -1, 0, 0, 0), Due.MISSING);
        x.sheet(1, 16, 4);
        due.is("other bits, asked ahead of the places", x.copy(0, -1, 1, 99, -5), Due.KIND);
        x.sheet(1, 8, 4);
        int max = Integer.MAX_VALUE;
        int min = Integer.MIN_VALUE;
        int[][] wrong = {{-1, 0, 1}, {0, -1, 1}, {0, 0, -1}, {5, 0, 1}, {0, 4, 1}, {0, 0, 5}, {1, 0, 5}, {2, 0, 4}, {0, 1, 4},
            {6, 0, 0}, {0, 5, 0}, {max, 0, 1}, {0, max, 1}, {1, 1, max}, {max, max, max}, {min, 0, 0}, {0, min, 0},
            {0, 0, min}, {max, 0, 0}};
        for (int[] w : wrong) {
            due.is("copy from " + w[0] + " to " + w[1] + " of " + w[2], x.copy(0, w[0], 1, w[1], w[2]), Due.BEYOND);
        }
        due.is("4 of 4", x.copy(0, 1, 1, 0, 4), 4);
        due.is("none at the ends", x.copy(0, 5, 1, 4, 0), 0);
    }

    private static void loading() {
        LacedHouse x = new LacedHouse();
        due.is("no sheet -1", x.load(-1), Due.BEYOND);
        due.is("no sheet 4", x.load(4), Due.BEYOND);
        due.is("missing", x.load(2), Due.MISSING);
        Due.tell(x, 2, 8, 40, 0, 41, 5);
        due.is("up to 41", x.load(2), 2);
        baseRow(x, 2, 40, 0, 20, 20);
        Due.tell(x, 2, 32, 7, -1, 5);
        due.is("up to -1", x.load(2), 1);
        baseRow(x, 2, 7, 0, 20);
        x.sheet(2, 16, 0);
        due.is("none", x.load(2), 0);
        x.sheet(2, 16, 40);
        due.is("as many as there are cells", x.load(2), 16);
        due.is("the last one", x.cell(15, 3), 0);
    }

    private static void judging() {
        LacedHouse x = Due.told("dog at 4;dog at 0;dog at 15");
        due.is("no sheet -1", x.judge(-1), Due.BEYOND);
        due.is("no sheet 4", x.judge(4), Due.BEYOND);
        due.is("missing", x.judge(0), Due.MISSING);
        Due.tell(x, 0, 8, 4, 0, 15);
        due.is("so", x.judge(0), 0);
        Due.tell(x, 0, 8, 4, 0);
        due.is("so as far as it tells", x.judge(0), 0);
        Due.tell(x, 0, 8, 4, 0, 14);
        due.is("the third isn't", x.judge(0), 3);
        Due.tell(x, 0, 8, 5, 0, 14);
        due.is("the first isn't", x.judge(0), 1);
        Due.tell(x, 0, 8, 4, 0, 15, 0);
        due.is("there is no fourth", x.judge(0), 4);
        Due.tell(x, 0, 8, 4, -1, 15);
        due.is("-1 is no cell", x.judge(0), 2);
        due.is("no finding", x.status(-1), 3);
    }
}
