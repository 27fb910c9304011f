import java.util.ArrayList;
import java.util.Collections;
import java.util.List;

/** The edges of promises 1 to 10: each least and greatest that is taken, the next one that is refused, and what it leaves. */
public final class HouseEdgesTest {
    private static final int MIN = Integer.MIN_VALUE;
    private static final int MAX = Integer.MAX_VALUE;

    private static final Due due = new Due();
    private static final Acts lived = new Acts(due, Acts::lived);
    private static final Acts empty = new Acts(due, LacedHouse::new);
    private static final Acts sevenDogs = new Acts(due, () -> Acts.dogs(7));
    private static final Acts eightDogs = new Acts(due, () -> Acts.dogs(8));

    public static void main(String[] args) {
        aNewObjectIsAsAtFirst();
        objectsAreApart();
        whatTheLookTells();
        set();
        setDoesNotSnap();
        cell();
        measure();
        listed();
        wide();
        guest();
        aGuestInARowThatWasUsed();
        of();
        needs();
        change();
        changedCellAndAimAreApart();
        reach();
        reachOfNothingNeeded();
        due.end();
    }

    private static List<String> rowsAtFirst() {
        List<String> rows = new ArrayList<>(List.of("hour 0", "guests 0", "strain 0", "snapped 0", "z 1", "cord 200", "tape 0",
            "text -1", "kept 0"));
        for (int spot = 0; spot < 10; spot++) {
            rows.add("spot " + spot + " -1");
        }
        for (int i = 0; i < 6; i++) {
            rows.add("list " + i + " 26");
        }
        for (int c = 0; c < 16; c++) {
            rows.add("base " + c + " 20");
        }
        for (int s = 0; s < 4; s++) {
            rows.add("sheet " + s + " bits 0");
        }
        Collections.sort(rows);
        return rows;
    }

    private static void aNewObjectIsAsAtFirst() {
        due.same("1: a new object", new Look(LacedHouse::new).rows(), rowsAtFirst());
        LacedHouse x = new LacedHouse();
        for (int which = -1; which < 7; which++) {
            due.is("1: a new object: status " + which, x.status(which), 0);
        }
        int[] now = {0, 26, 0, 0, 0, 0, 0, 0};
        for (int what = 0; what < 8; what++) {
            due.is("1: a new object: now " + what, x.now(what), now[what]);
        }
        empty.refused("1: no guest 0", y -> y.of(0, 0), Due.BEYOND);
        empty.refused("1: no image", LacedHouse::undo, Due.NONE);
        empty.taken("1: no image to tear", LacedHouse::tear, 0);
        empty.taken("1: an empty tape", LacedHouse::wipe, 0);
    }

    private static void objectsAreApart() {
        LacedHouse x = Acts.lived();
        x.set(7, 7);
        due.same("1: another object is as at first", new Look(LacedHouse::new).rows(), rowsAtFirst());
        due.is("1: its findings, too", new LacedHouse().status(-1), 0);
        due.is("1: the one stays", x.count(1), 3);
    }

    private static void whatTheLookTells() {
        List<String> rows = new Look(Acts::lived).rows();
        for (String row : new String[] {"hour 1", "guests 3", "strain 55", "snapped 0", "z -5", "cord 300", "tape 7", "text 1",
            "text cord 77", "kept 1", "base 4 9", "base 15 33", "list 2 19", "list 5 30", "spot 0 1", "spot 9 2", "spot 8 -1",
            "guest 0 kind 0", "guest 0 cell 3", "guest 0 size 12", "guest 0 aim 9", "guest 0 stuck 1", "guest 0 home 0",
            "guest 1 kind 1", "guest 1 cell 0", "guest 1 size 10", "guest 1 aim 0", "guest 1 stuck 5", "guest 2 home 1",
            "sheet 0 bits 8", "sheet 0 length 3", "sheet 0 number 0 3", "sheet 0 number 1 -1", "sheet 0 number 2 14",
            "sheet 1 bits 16", "sheet 1 length 4", "sheet 1 number 3 99", "sheet 2 bits 32", "sheet 2 length 0", "sheet 3 bits 0",
            "kept hour 0", "kept strain 40", "kept z 777", "kept guest 0 stuck 0", "kept spot 0 1", "kept spot 9 -1"}) {
            due.holds("the look tells " + row, rows.contains(row));
        }
    }

    private static void set() {
        lived.taken("2: CORD 0", x -> x.set(0, 0), 300, "cord 300 > 0");
        lived.taken("2: CORD 999", x -> x.set(0, 999), 300, "cord 300 > 999");
        lived.taken("2: CORD as it was", x -> x.set(0, 300), 300);
        lived.taken("2: STRAIN 0", x -> x.set(1, 0), 55, "strain 55 > 0");
        lived.taken("2: STRAIN 9999", x -> x.set(1, 9999), 55, "strain 55 > 9999");
        lived.taken("2: SNAPPED 0", x -> x.set(2, 0), 0);
        lived.taken("2: SNAPPED 1", x -> x.set(2, 1), 0, "snapped 0 > 1");
        int[][] refused = {{0, -1}, {0, 1000}, {1, -1}, {1, 10000}, {2, -1}, {2, 2}, {-1, 0}, {3, 0}, {-1, 1}, {3, 1},
            {0, MIN}, {0, MAX}, {1, MIN}, {1, MAX}, {2, MIN}, {2, MAX}, {MIN, 0}, {MAX, 0}, {MIN, MIN}, {MAX, MAX}};
        for (int[] r : refused) {
            lived.refused("2: set " + r[0] + " " + r[1], x -> x.set(r[0], r[1]), Due.BEYOND);
        }
        LacedHouse y = new LacedHouse();
        y.set(0, 999);
        y.set(1, 9999);
        y.set(2, 1);
        due.is("2: what CORD was, the greatest", y.set(0, 5), 999);
        due.is("2: what STRAIN was, the greatest", y.set(1, 5), 9999);
        due.is("2: what SNAPPED was, 1", y.set(2, 0), 1);
        y.set(0, 0);
        y.set(1, 0);
        due.is("2: what CORD was, 0", y.set(0, 5), 0);
        due.is("2: what STRAIN was, 0", y.set(1, 5), 0);
        due.is("2: what SNAPPED was, 0", y.set(2, 1), 0);
    }

    private static void setDoesNotSnap() {
        LacedHouse x = new LacedHouse();
        x.set(1, 9999);
        due.is("2: STRAIN above CORD does not snap before an HOUR", x.now(3), 0);
        x.set(0, 0);
        due.is("2: nor does CORD below STRAIN", x.now(3), 0);
        x.set(2, 1);
        x.set(1, 0);
        due.is("2: SNAPPED stays with STRAIN 0", x.now(3), 1);
    }

    private static void cell() {
        lived.taken("3: CELL 0, BASE 0", x -> x.cell(0, 0), 20, "base 0 20 > 0");
        lived.taken("3: CELL 0, BASE 40", x -> x.cell(0, 40), 20, "base 0 20 > 40");
        lived.taken("3: CELL 15, BASE 0", x -> x.cell(15, 0), 33, "base 15 33 > 0");
        lived.taken("3: CELL 15, BASE 40", x -> x.cell(15, 40), 33, "base 15 33 > 40");
        lived.taken("3: BASE as it was", x -> x.cell(4, 9), 9);
        int[][] refused = {{-1, 0}, {16, 0}, {0, -1}, {0, 41}, {15, -1}, {15, 41}, {-1, 41}, {MIN, 5}, {MAX, 5}, {5, MIN},
            {5, MAX}};
        for (int[] r : refused) {
            lived.refused("3: cell " + r[0] + " " + r[1], x -> x.cell(r[0], r[1]), Due.BEYOND);
        }
        LacedHouse y = new LacedHouse();
        for (int c = 0; c < 16; c++) {
            due.is("3: BASE of each CELL at first", y.cell(c, c), 20);
        }
        for (int c = 0; c < 16; c++) {
            due.is("3: BASE of each CELL is its own", y.cell(c, 40), c);
        }
        due.is("3: the greatest that it was", y.cell(0, 0), 40);
        due.is("3: the least that it was", y.cell(0, 1), 0);
    }

    private static void measure() {
        lived.taken("4: place 0, 16", x -> x.measure(0, 16), 26, "list 0 26 > 16");
        lived.taken("4: place 0, 36", x -> x.measure(0, 36), 26, "list 0 26 > 36");
        lived.taken("4: place 5, 16", x -> x.measure(5, 16), 30, "list 5 30 > 16");
        lived.taken("4: place 5, 36", x -> x.measure(5, 36), 30, "list 5 30 > 36");
        int[][] refused = {{-1, 26}, {6, 26}, {0, 15}, {0, 37}, {5, 15}, {5, 37}, {0, 0}, {0, -26}, {MIN, 26}, {MAX, 26},
            {0, MIN}, {0, MAX}};
        for (int[] r : refused) {
            lived.refused("4: measure " + r[0] + " " + r[1], x -> x.measure(r[0], r[1]), Due.BEYOND);
        }
        LacedHouse y = new LacedHouse();
        for (int i = 0; i < 6; i++) {
            due.is("4: each place at first", y.measure(i, 16 + 4 * i), 26);
        }
        for (int i = 0; i < 6; i++) {
            due.is("4: each place is its own", y.measure(i, 36), 16 + 4 * i);
        }
    }

    private static void listed() {
        lived.taken("5: place 0", x -> x.listed(0), 26);
        lived.taken("5: place 2", x -> x.listed(2), 19);
        lived.taken("5: place 5", x -> x.listed(5), 30);
        for (int i : new int[] {-1, 6, MIN, MAX}) {
            lived.refused("5: place " + i, x -> x.listed(i), Due.BEYOND);
        }
        LacedHouse y = new LacedHouse();
        y.measure(0, 16);
        y.measure(5, 36);
        due.is("5: the least", y.listed(0), 16);
        due.is("5: the greatest", y.listed(5), 36);
        y.go(60);
        due.is("5: it tells places, not hours", y.listed(0), 16);
    }

    private static void wide() {
        int[][] rows = {{0, 16, 0}, {0, 25, 0}, {0, 26, 0}, {0, 27, 1}, {0, 36, 10}, {9, 16, 0}, {10, 16, 0}, {11, 16, 1},
            {9, 17, 0}, {10, 17, 1}, {40, 16, 30}, {40, 26, 40}, {40, 36, 50}, {20, 26, 20}, {20, 16, 10}, {20, 36, 30}};
        for (int[] r : rows) {
            LacedHouse y = new LacedHouse();
            for (int c = 0; c < 16; c += 15) {
                y.cell(c, r[0]);
                due.is("6: CELL " + c + " of BASE " + r[0] + " at " + r[1], y.wide(c, r[1]), r[2]);
            }
        }
        lived.taken("6: CELL 0 at 16", x -> x.wide(0, 16), 10);
        lived.taken("6: CELL 15 at 36", x -> x.wide(15, 36), 43);
        int[][] refused = {{-1, 26}, {16, 26}, {0, 15}, {0, 37}, {15, 15}, {15, 37}, {MIN, 26}, {MAX, 26}, {0, MIN}, {0, MAX}};
        for (int[] r : refused) {
            lived.refused("6: wide " + r[0] + " " + r[1], x -> x.wide(r[0], r[1]), Due.BEYOND);
        }
        LacedHouse s = new LacedHouse();
        s.set(2, 1);
        due.is("6: SNAPPED or not, at the told MEASURE", s.wide(3, 16), 10);
    }

    private static String[] newGuest(int g, int kind, int cell) {
        return Acts.newGuest(g, kind, cell, 10, cell);
    }

    private static void guest() {
        empty.taken("7: the first one, KIND 0 AT 0", x -> x.guest(0, 0), 0, newGuest(0, 0, 0));
        empty.taken("7: the first one, KIND 6 AT 15", x -> x.guest(6, 15), 0, newGuest(0, 6, 15));
        lived.taken("7: the fourth one", x -> x.guest(6, 0), 3, newGuest(3, 6, 0));
        sevenDogs.taken("7: the eighth one, KIND 0 AT 15", x -> x.guest(0, 15), 7, newGuest(7, 0, 15));
        sevenDogs.taken("7: the eighth one, KIND 6 AT 0", x -> x.guest(6, 0), 7, newGuest(7, 6, 0));
        eightDogs.refused("7: a ninth one", x -> x.guest(0, 0), Due.FULL);
        eightDogs.refused("7: a ninth one, KIND 6 AT 15", x -> x.guest(6, 15), Due.FULL);
        int[][] refused = {{-1, 0}, {7, 0}, {0, -1}, {0, 16}, {6, -1}, {6, 16}, {-1, 15}, {7, 15}, {MIN, 0}, {MAX, 0},
            {0, MIN}, {0, MAX}};
        for (int[] r : refused) {
            empty.refused("7: guest " + r[0] + " " + r[1], x -> x.guest(r[0], r[1]), Due.BEYOND);
            eightDogs.refused("7: BEYOND is asked ahead of FULL: guest " + r[0] + " " + r[1], x -> x.guest(r[0], r[1]),
                Due.BEYOND);
        }
        LacedHouse h = Acts.dogs(8);
        h.change(3, 5, 1);
        due.is("7: one that is HOME counts, too", h.guest(0, 0), Due.FULL);
    }

    private static void aGuestInARowThatWasUsed() {
        LacedHouse x = Acts.dogs(1);
        x.image();
        x.guest(Due.COOK, 9);
        int[] v = {Due.MAID, 5, 33, 2, 77, 1};
        for (int what = 0; what < 6; what++) {
            x.change(1, what, v[what]);
        }
        x.undo();
        due.is("7: the number is free again", x.guest(Due.BOY, 4), 1);
        int[] first = {Due.BOY, 4, 10, 4, 0, 0};
        for (int what = 0; what < 6; what++) {
            due.is("7: all as at first, what " + what, x.of(1, what), first[what]);
        }
    }

    private static void of() {
        int[][] want = {{0, 3, 12, 9, 1, 0, 12, 2, 3, 0}, {1, 0, 10, 0, 5, 0, 6, 1, 5, 0}, {2, 14, 7, 1, 0, 1, 3, 4, 4, 0}};
        for (int g = 0; g < 3; g++) {
            for (int what = 0; what < 10; what++) {
                int guest = g;
                int asked = what;
                lived.taken("8: of " + g + " " + what, x -> x.of(guest, asked), want[g][what]);
            }
        }
        int[][] refused = {{-1, 0}, {3, 0}, {-1, 9}, {3, 9}, {0, -1}, {0, 10}, {2, -1}, {2, 10}, {MIN, 0}, {MAX, 0}, {0, MIN},
            {0, MAX}};
        for (int[] r : refused) {
            lived.refused("8: of " + r[0] + " " + r[1], x -> x.of(r[0], r[1]), Due.BEYOND);
        }
        empty.refused("8: nobody is there", x -> x.of(0, 0), Due.BEYOND);
        eightDogs.taken("8: the eighth one", x -> x.of(7, 1), 7);
        eightDogs.refused("8: no ninth one", x -> x.of(8, 1), Due.BEYOND);
    }

    private static int needsOf(int kind, int size, int stuck, int hours) {
        LacedHouse x = new LacedHouse();
        x.guest(kind, 9);
        if (hours > 0) {
            x.go(hours);
        }
        x.change(0, 2, size);
        x.change(0, 4, stuck);
        return x.of(0, 6);
    }

    private static void needs() {
        int[][] rows = {
            // kind, size, stuck, hour, needs
            {Due.GUEST, 1, 0, 0, 1}, {Due.GUEST, 40, 9999, 1, 40},
            {Due.COOK, 1, 0, 0, 5}, {Due.COOK, 40, 0, 0, 44}, {Due.COOK, 40, 2, 0, 44}, {Due.COOK, 40, 3, 0, 36},
            {Due.COOK, 40, 4, 0, 36}, {Due.COOK, 40, 9999, 0, 36}, {Due.COOK, 1, 2, 0, 5}, {Due.COOK, 1, 3, 0, 0},
            {Due.COOK, 3, 3, 0, 0}, {Due.COOK, 4, 3, 0, 0}, {Due.COOK, 5, 3, 0, 1},
            {Due.EXPLORER, 1, 2, 0, 11}, {Due.EXPLORER, 1, 3, 0, 6}, {Due.EXPLORER, 3, 3, 0, 6}, {Due.EXPLORER, 4, 3, 0, 6},
            {Due.EXPLORER, 5, 3, 0, 7}, {Due.EXPLORER, 40, 2, 0, 50}, {Due.EXPLORER, 40, 3, 0, 42},
            {Due.BOY, 1, 0, 0, 0}, {Due.BOY, 2, 0, 0, 1}, {Due.BOY, 3, 3, 1, 1}, {Due.BOY, 39, 0, 0, 19}, {Due.BOY, 40, 0, 0, 20},
            {Due.MAID, 1, 0, 0, 3}, {Due.MAID, 2, 3, 1, 4}, {Due.MAID, 39, 0, 0, 22}, {Due.MAID, 40, 0, 0, 23},
            {Due.NURSE, 1, 0, 0, 3}, {Due.NURSE, 1, 0, 1, 4}, {Due.NURSE, 1, 0, 2, 3}, {Due.NURSE, 40, 3, 59, 24},
            {Due.NURSE, 40, 3, 60, 23},
            {Due.DOG, 1, 0, 0, 4}, {Due.DOG, 40, 9999, 1, 4},
        };
        for (int[] r : rows) {
            due.is("8: NEEDS of KIND " + r[0] + " SIZE " + r[1] + " STUCK " + r[2] + " HOUR " + r[3],
                needsOf(r[0], r[1], r[2], r[3]), r[4]);
        }
    }

    private static void change() {
        String[] names = {"kind", "cell", "size", "aim", "stuck", "home"};
        int[] least = {0, 0, 1, 0, 0, 0};
        int[] greatest = {6, 15, 40, 15, 9999, 1};
        int[][] was = {{0, 3, 12, 9, 1, 0}, {1, 0, 10, 0, 5, 0}, {2, 14, 7, 1, 0, 1}};
        for (int g = 0; g < 3; g++) {
            for (int what = 0; what < 6; what++) {
                for (int v : new int[] {least[what], greatest[what]}) {
                    changeTo(g, what, v, was[g][what], names[what]);
                }
                for (int v : new int[] {least[what] - 1, greatest[what] + 1, MIN, MAX}) {
                    int guest = g;
                    int asked = what;
                    lived.refused("9: change " + g + " " + what + " " + v, x -> x.change(guest, asked, v), Due.BEYOND);
                }
            }
        }
        int[][] refused = {{-1, 0, 0}, {3, 0, 0}, {0, -1, 0}, {0, 6, 0}, {2, -1, 1}, {2, 6, 1}, {0, 7, 1}, {0, 9, 1}, {MIN, 0, 0},
            {MAX, 0, 0}, {0, MIN, 0}, {0, MAX, 0}};
        for (int[] r : refused) {
            lived.refused("9: change " + r[0] + " " + r[1] + " " + r[2], x -> x.change(r[0], r[1], r[2]), Due.BEYOND);
        }
        empty.refused("9: nobody is there", x -> x.change(0, 0, 0), Due.BEYOND);
        eightDogs.taken("9: the eighth one", x -> x.change(7, 2, 1), 10, "guest 7 size 10 > 1");
        eightDogs.refused("9: no ninth one", x -> x.change(8, 2, 1), Due.BEYOND);
    }

    private static void changeTo(int g, int what, int v, int was, String name) {
        String[] changes = v == was ? new String[0] : new String[] {"guest " + g + " " + name + " " + was + " > " + v};
        lived.taken("9: change " + g + " " + what + " " + v, x -> x.change(g, what, v), was, changes);
    }

    private static void changedCellAndAimAreApart() {
        LacedHouse x = Acts.dogs(1);
        due.is("9: AIM at first is the CELL", x.of(0, 3), 0);
        x.change(0, 1, 15);
        due.is("9: AIM stays when the CELL changes", x.of(0, 3), 0);
        due.is("9: so it isn't AT its AIM", x.now(5), 0);
        x.change(0, 3, 15);
        due.is("9: now it is", x.now(5), 1);
    }

    private static void reach() {
        lived.taken("10: at 16 all are too narrow", x -> x.reach(0, 16), 1 << 3);
        lived.taken("10: one too narrow", x -> x.reach(0, 28), 0b1111);
        lived.taken("10: as WIDE as it NEEDS", x -> x.reach(0, 29), 0xffff);
        lived.taken("10: at 36", x -> x.reach(0, 36), 0xffff);
        lived.taken("10: the last one", x -> x.reach(2, 16), 0xffff & ~0b11111);
        int[][] refused = {{-1, 26}, {3, 26}, {0, 15}, {0, 37}, {2, 15}, {2, 37}, {MIN, 26}, {MAX, 26}, {0, MIN}, {0, MAX}};
        for (int[] r : refused) {
            lived.refused("10: reach " + r[0] + " " + r[1], x -> x.reach(r[0], r[1]), Due.BEYOND);
        }
        empty.refused("10: nobody is there", x -> x.reach(0, 26), Due.BEYOND);
        LacedHouse y = Due.told("guest;guest at 15;cell 1 15;cell 14 15;cell 0 0;cell 15 0");
        for (int g = 0; g < 2; g++) {
            int own = g == 0 ? 1 : 1 << 15;
            due.is("10: from the end, one too narrow", y.reach(g, 20), own);
            due.is("10: from the end, wide enough, but for the other end", y.reach(g, 21), 0x7ffe | own);
            due.is("10: its own CELL may be 0 WIDE", y.wide(0, 21), 0);
            due.is("10: to the other end", y.reach(g, 36), 0xffff);
            due.is("10: not quite", y.reach(g, 35), 0x7ffe | own);
        }
    }

    private static void reachOfNothingNeeded() {
        LacedHouse x = Due.told("cook at 7 size 4;boy at 7 size 1;boy at 7 size 2;cook at 7 size 5");
        x.change(0, 4, 3);
        x.change(3, 4, 3);
        for (int c = 0; c < 16; c++) {
            x.cell(c, 0);
        }
        due.is("10: a CELL that is 0 WIDE is as WIDE as 0", x.reach(0, 16), 0xffff);
        due.is("10: half of 1 is 0", x.reach(1, 26), 0xffff);
        due.is("10: half of 2 is 1", x.reach(2, 26), 1 << 7);
        due.is("10: 1 WIDE is enough then", x.reach(2, 27), 0xffff);
        due.is("10: a cook of 5 NEEDS 1", x.reach(3, 26), 1 << 7);
        x.change(0, 4, 2);
        due.is("10: as NEEDS are now", x.reach(0, 33), 1 << 7);
        due.is("10: 8 without butter", x.reach(0, 34), 0xffff);
    }
}
