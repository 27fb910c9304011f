/** Promises 1 to 10: a new object, the house and its guests. */
public final class HouseTest {
    private static final Due due = new Due();

    public static void main(String[] args) {
        newObject();
        settings();
        cells();
        measures();
        widths();
        newGuests();
        traits();
        needs();
        stepsLaughsLaces();
        changes();
        reaches();
        due.end();
    }

    private static void newObject() {
        LacedHouse x = new LacedHouse();
        int[] counts = {0, 0, 0, 0, 0, 0, 1, 0};
        for (int what = 0; what < counts.length; what++) {
            due.is("new: count " + what, x.count(what), counts[what]);
        }
        due.is("new: status", x.status(-1), 0);
        for (int i = 0; i < 6; i++) {
            due.is("new: listed " + i, x.listed(i), 26);
        }
        for (int c = 0; c < 16; c++) {
            due.is("new: wide " + c, x.wide(c, 26), 20);
        }
        due.is("new: no guest", x.of(0, 0), Due.BEYOND);
        due.is("new: tape is empty", x.wipe(), 0);
        due.is("new: nothing kept", x.undo(), Due.NONE);
        due.is("new: nothing to tear", x.tear(), 0);
        for (int s = 0; s < 4; s++) {
            due.is("new: sheet " + s, x.load(s), Due.MISSING);
        }
        for (int spot = 0; spot < 10; spot++) {
            due.is("new: spot " + spot, x.as(spot, 0), Due.MISSING);
        }
        due.is("new: cord", x.set(0, 1), 200);
        due.is("new: measure now", x.now(1), 26);
        due.is("new: z", x.seed(5), 1);
    }

    private static void settings() {
        LacedHouse x = new LacedHouse();
        due.is("cord", x.set(0, 999), 200);
        due.is("cord again", x.set(0, 0), 999);
        due.is("cord 0", x.set(0, 7), 0);
        due.is("strain", x.set(1, 9999), 0);
        due.is("strain again", x.set(1, 0), 9999);
        due.is("snapped", x.set(2, 1), 0);
        due.is("measure when snapped", x.now(1), 36);
        due.is("not snapped", x.set(2, 0), 1);
        due.is("measure when not", x.now(1), 26);
        int[][] wrong = {{-1, 0}, {3, 0}, {0, -1}, {0, 1000}, {1, -1}, {1, 10000}, {2, -1}, {2, 2},
            {Integer.MIN_VALUE, 0}, {Integer.MAX_VALUE, 0}, {0, Integer.MIN_VALUE}, {1, Integer.MAX_VALUE}};
        for (int[] w : wrong) {
            due.is("set " + w[0] + " " + w[1], x.set(w[0], w[1]), Due.BEYOND);
        }
        due.is("cord stays", x.set(0, 200), 7);
        due.is("strain stays", x.set(1, 0), 0);
        due.is("snapped stays", x.set(2, 0), 0);
        due.is("counted", x.status(0), wrong.length);
    }

    private static void cells() {
        LacedHouse x = new LacedHouse();
        due.is("cell 0", x.cell(0, 40), 20);
        due.is("cell 15", x.cell(15, 0), 20);
        due.is("cell 0 again", x.cell(0, 3), 40);
        due.is("cell 15 again", x.cell(15, 4), 0);
        due.is("no cell -1", x.cell(-1, 3), Due.BEYOND);
        due.is("no cell 16", x.cell(16, 3), Due.BEYOND);
        due.is("no base -1", x.cell(0, -1), Due.BEYOND);
        due.is("no base 41", x.cell(0, 41), Due.BEYOND);
        due.is("base stays", x.cell(0, 20), 3);
        due.is("another is as it was", x.cell(1, 20), 20);
    }

    private static void measures() {
        LacedHouse x = new LacedHouse();
        due.is("measure 0", x.measure(0, 16), 26);
        due.is("measure 5", x.measure(5, 36), 26);
        due.is("measure 0 again", x.measure(0, 18), 16);
        due.is("listed 0", x.listed(0), 18);
        due.is("listed 5", x.listed(5), 36);
        due.is("listed 1", x.listed(1), 26);
        due.is("no place -1", x.measure(-1, 20), Due.BEYOND);
        due.is("no place 6", x.measure(6, 20), Due.BEYOND);
        due.is("no measure 15", x.measure(0, 15), Due.BEYOND);
        due.is("no measure 37", x.measure(0, 37), Due.BEYOND);
        due.is("listed stays", x.listed(0), 18);
        due.is("listed -1", x.listed(-1), Due.BEYOND);
        due.is("listed 6", x.listed(6), Due.BEYOND);
        x.set(2, 1);
        due.is("listed when snapped", x.listed(0), 18);
    }

    private static void widths() {
        LacedHouse x = new LacedHouse();
        due.is("wide at 16", x.wide(3, 16), 10);
        due.is("wide at 36", x.wide(3, 36), 30);
        x.cell(3, 10);
        due.is("just 0 wide", x.wide(3, 16), 0);
        due.is("1 wide", x.wide(3, 17), 1);
        x.cell(3, 0);
        due.is("0 at least", x.wide(3, 16), 0);
        due.is("0 and 36", x.wide(3, 36), 10);
        x.cell(3, 40);
        due.is("widest", x.wide(3, 36), 50);
        due.is("no cell -1", x.wide(-1, 20), Due.BEYOND);
        due.is("no cell 16", x.wide(16, 20), Due.BEYOND);
        due.is("no measure 15", x.wide(0, 15), Due.BEYOND);
        due.is("no measure 37", x.wide(0, 37), Due.BEYOND);
    }

    private static void newGuests() {
        LacedHouse x = new LacedHouse();
        due.is("no kind -1", x.guest(-1, 0), Due.BEYOND);
        due.is("no kind 7", x.guest(7, 0), Due.BEYOND);
        due.is("no cell -1", x.guest(0, -1), Due.BEYOND);
        due.is("no cell 16", x.guest(0, 16), Due.BEYOND);
        for (int g = 0; g < 8; g++) {
            due.is("guest " + g, x.guest(g % 7, 15 - g), g);
        }
        due.is("beyond is asked first", x.guest(7, 0), Due.BEYOND);
        due.is("full", x.guest(0, 0), Due.FULL);
        due.is("eight", x.count(1), 8);
        due.is("kind of 6", x.of(6, 0), 6);
        due.is("cell of 0", x.of(0, 1), 15);
        due.is("aim of 3", x.of(3, 3), 12);
    }

    private static void traits() {
        LacedHouse x = new LacedHouse();
        x.guest(Due.BOY, 9);
        int[] first = {2, 9, 10, 9, 0, 0, 5, 4, 3, 0};
        for (int what = 0; what < first.length; what++) {
            due.is("of 0 " + what, x.of(0, what), first[what]);
        }
        due.is("no guest -1", x.of(-1, 0), Due.BEYOND);
        due.is("no guest 1", x.of(1, 0), Due.BEYOND);
        due.is("no what -1", x.of(0, -1), Due.BEYOND);
        due.is("no what 10", x.of(0, 10), Due.BEYOND);
    }

    private static int needsOf(int kind, int size, int stuck, int hour) {
        LacedHouse x = new LacedHouse();
        x.guest(kind, 3);
        if (hour > 0) {
            x.go(hour);
        }
        x.change(0, 2, size);
        x.change(0, 4, stuck);
        return x.of(0, 6);
    }

    private static void needs() {
        int[][] rows = {
            // kind, size, stuck, hour, needs
            {Due.GUEST, 40, 9, 1, 40}, {Due.GUEST, 1, 0, 0, 1},
            {Due.COOK, 10, 0, 0, 14}, {Due.COOK, 10, 2, 0, 14}, {Due.COOK, 10, 3, 0, 6}, {Due.COOK, 10, 9999, 1, 6},
            {Due.COOK, 3, 3, 0, 0}, {Due.COOK, 4, 3, 0, 0}, {Due.COOK, 5, 3, 0, 1},
            {Due.EXPLORER, 10, 0, 0, 20}, {Due.EXPLORER, 10, 3, 0, 12}, {Due.EXPLORER, 1, 3, 0, 6},
            {Due.BOY, 11, 5, 1, 5}, {Due.BOY, 1, 0, 0, 0}, {Due.BOY, 40, 0, 0, 20},
            {Due.MAID, 11, 3, 1, 8}, {Due.MAID, 1, 0, 0, 3},
            {Due.NURSE, 11, 3, 0, 8}, {Due.NURSE, 11, 3, 1, 9}, {Due.NURSE, 11, 0, 2, 8}, {Due.NURSE, 1, 0, 3, 4},
            {Due.DOG, 40, 3, 1, 4}, {Due.DOG, 1, 0, 0, 4},
        };
        for (int[] r : rows) {
            due.is("needs of kind " + r[0] + " size " + r[1] + " stuck " + r[2] + " hour " + r[3],
                needsOf(r[0], r[1], r[2], r[3]), r[4]);
        }
    }

    private static void stepsLaughsLaces() {
        int[] steps = {2, 1, 4, 3, 2, 5, 1};
        int[] laces = {0, 0, 0, 4, 8, 0, 0};
        int[][] laughs = {{3, 3, 3, 3}, {5, 5, 5, 5}, {3, 4, 5, 3}, {0, 0, 0, 0}, {1, 1, 1, 1}, {2, 2, 2, 2},
            {50, 50, 50, 50}};
        for (int kind = 0; kind < 7; kind++) {
            LacedHouse x = new LacedHouse();
            x.guest(kind, 5);
            due.is("steps of kind " + kind, x.of(0, 7), steps[kind]);
            due.is("laces of kind " + kind, x.of(0, 9), laces[kind]);
            for (int hour = 0; hour < 4; hour++) {
                due.is("laughs of kind " + kind + " hour " + hour, x.of(0, 8), laughs[kind][hour]);
                x.go(1);
            }
        }
    }

    private static void changes() {
        LacedHouse x = new LacedHouse();
        x.guest(Due.GUEST, 4);
        x.guest(Due.DOG, 4);
        int[] first = {0, 4, 10, 4, 0, 0};
        int[] least = {0, 0, 1, 0, 0, 0};
        int[] greatest = {6, 15, 40, 15, 9999, 1};
        for (int what = 0; what < 6; what++) {
            due.is("change " + what + " to the least", x.change(0, what, least[what]), first[what]);
            due.is("change " + what + " to the greatest", x.change(0, what, greatest[what]), least[what]);
            due.is("change " + what + " below", x.change(0, what, least[what] - 1), Due.BEYOND);
            due.is("change " + what + " above", x.change(0, what, greatest[what] + 1), Due.BEYOND);
            due.is("of " + what, x.of(0, what), greatest[what]);
        }
        due.is("no guest -1", x.change(-1, 1, 0), Due.BEYOND);
        due.is("no guest 2", x.change(2, 1, 0), Due.BEYOND);
        due.is("no what -1", x.change(0, -1, 0), Due.BEYOND);
        due.is("no what 6", x.change(0, 6, 1), Due.BEYOND);
        due.is("the other one stays", x.of(1, 0), Due.DOG);
        LacedHouse y = new LacedHouse();
        y.guest(Due.GUEST, 4);
        y.change(0, 1, 9);
        due.is("aim stays when the cell changes", y.of(0, 3), 4);
    }

    private static void reaches() {
        LacedHouse x = new LacedHouse();
        x.guest(Due.GUEST, 5);
        due.is("all at 26", x.reach(0, 26), 0xffff);
        due.is("as wide as needed is enough", x.reach(0, 16), 0xffff);
        x.change(0, 2, 11);
        due.is("where it is, too", x.reach(0, 16), 1 << 5);
        x.cell(3, 10);
        x.cell(8, 10);
        due.is("between two narrow ones", x.reach(0, 26), 0b11110000);
        due.is("wider", x.reach(0, 27), 0xffff);
        x.cell(5, 0);
        due.is("its own cell may be narrow", x.reach(0, 26), 0b11110000);
        x.change(0, 5, 1);
        due.is("home or not", x.reach(0, 26), 0b11110000);
        LacedHouse y = Due.told("cook at 2");
        y.change(0, 2, 15);
        y.change(0, 4, 3);
        due.is("butter helps", y.reach(0, 17), 0xffff);
        y.change(0, 4, 2);
        due.is("no butter yet", y.reach(0, 17), 4);
        LacedHouse n = Due.told("nurse at 2 size 14");
        due.is("nurse at an even hour", n.reach(0, 16), 0xffff);
        n.go(1);
        due.is("nurse at an odd hour", n.reach(0, 16), 4);
        due.is("no guest -1", x.reach(-1, 20), Due.BEYOND);
        due.is("no guest 1", x.reach(1, 20), Due.BEYOND);
        due.is("no measure 15", x.reach(0, 15), Due.BEYOND);
        due.is("no measure 37", x.reach(0, 37), Due.BEYOND);
    }
}
