/** Promises 13 to 17: what will be. */
public final class AheadTest {
    private static final Due due = new Due();

    public static void main(String[] args) {
        ahead();
        strain();
        snaps();
        comes();
        stuck();
        nothingChanges();
        due.end();
    }

    private static LacedHouse cookOnHerWay() {
        // She is stuck three hours before each cell.
        return Due.told("guest at 7;cook size 20 to 3;cord 999");
    }

    private static void ahead() {
        LacedHouse x = cookOnHerWay();
        int[] cells = {0, 0, 0, 0, 1, 1, 1, 1, 2, 2, 2, 2, 3, 3};
        int[] stuck = {0, 1, 2, 3, 0, 1, 2, 3, 0, 1, 2, 3, 0, 0};
        for (int n = 0; n < cells.length; n++) {
            due.is("cell behind " + n, x.ahead(1, 1, n), cells[n]);
            due.is("stuck behind " + n, x.ahead(1, 4, n), stuck[n]);
            due.is("needs behind " + n, x.ahead(1, 6, n), stuck[n] >= 3 ? 16 : 24);
        }
        due.is("behind 100", x.ahead(1, 1, 100), 3);
        LacedHouse n = Due.told("nurse at 3");
        due.is("needs at an even hour", n.ahead(0, 6, 0), 8);
        due.is("needs at an odd hour", n.ahead(0, 6, 1), 9);
        due.is("no hours below 0", x.ahead(0, 1, -1), Due.BEYOND);
        due.is("no 101 hours", x.ahead(0, 1, 101), Due.BEYOND);
        due.is("no guest -1", x.ahead(-1, 1, 0), Due.BEYOND);
        due.is("no guest 2", x.ahead(2, 1, 0), Due.BEYOND);
        for (int what = -1; what < 11; what++) {
            if (what != 1 && what != 4 && what != 6) {
                due.is("no what " + what, x.ahead(0, what, 0), Due.BEYOND);
            }
        }
    }

    private static void strain() {
        LacedHouse x = Due.told("measure 0 30;cord 90");
        x.set(1, 5);
        due.is("now", x.strain(0), 5);
        due.is("behind 1", x.strain(1), 11);
        due.is("behind 2", x.strain(2), 21);
        due.is("behind 7", x.strain(7), 67);
        due.is("behind 100: it snapped", x.strain(100), 97);
        due.is("no hours below 0", x.strain(-1), Due.BEYOND);
        due.is("no 101 hours", x.strain(101), Due.BEYOND);
    }

    private static void snaps() {
        LacedHouse x = new LacedHouse();
        due.is("behind 21", x.snaps(), 21);
        x.set(1, 200);
        due.is("behind 1", x.snaps(), 1);
        x.set(2, 1);
        due.is("now", x.snaps(), 0);
        LacedHouse y = Due.told("maid at 1;nurse at 1;measure 0 36");
        due.is("never", y.snaps(), Due.NONE);
        due.is("counted", y.status(3), 1);
        // A measure of 36 but for one hour in six with 1 more: above 33 behind hour 200 and no sooner.
        LacedHouse z = Due.told("measure 0 36;measure 1 35;measure 2 36;measure 3 36;measure 4 36;measure 5 36");
        z.set(0, 32);
        due.is("behind 194", z.snaps(), 194);
        z.set(0, 33);
        due.is("behind 200", z.snaps(), 200);
        z.set(0, 34);
        due.is("behind 206 is too late", z.snaps(), Due.NONE);
    }

    private static void comes() {
        LacedHouse x = cookOnHerWay();
        due.is("is there", x.comes(1, 0), 0);
        due.is("behind 4", x.comes(1, 1), 4);
        due.is("behind 8", x.comes(1, 2), 8);
        due.is("never", x.comes(1, 4), Due.NONE);
        due.is("no guest 2", x.comes(2, 0), Due.BEYOND);
        due.is("no guest -1", x.comes(-1, 0), Due.BEYOND);
        due.is("no cell 16", x.comes(0, 16), Due.BEYOND);
        due.is("no cell -1", x.comes(0, -1), Due.BEYOND);
        LacedHouse y = Due.told("dog to 12");
        due.is("going past is not being there", y.comes(0, 3), Due.NONE);
        due.is("5 behind 1", y.comes(0, 5), 1);
        due.is("12 behind 3", y.comes(0, 12), 3);
        LacedHouse z = Due.told("measure 0 36;measure 1 35;measure 2 36;measure 3 36;measure 4 36;measure 5 36;guest at 3 size 30 to 4;cell 4 20");
        due.is("at 36 at once", z.comes(0, 4), 1);
        // Only when it is snapped is there a way: 30 wide at 36.
        LacedHouse w = Due.told("measure 0 35;measure 1 35;measure 2 35;measure 3 35;measure 4 35;measure 5 35;guest at 3 size 30 to 4");
        w.set(0, 198);
        due.is("behind 200", w.comes(0, 4), 200);
        w.set(0, 199);
        due.is("behind 201 is too late", w.comes(0, 4), Due.NONE);
    }

    private static void stuck() {
        LacedHouse x = cookOnHerWay();
        due.is("0 is at once", x.stuck(1, 0), 0);
        due.is("1", x.stuck(1, 1), 1);
        due.is("3", x.stuck(1, 3), 3);
        due.is("never 4", x.stuck(1, 4), Due.NONE);
        x.change(1, 4, 50);
        due.is("or more", x.stuck(1, 7), 0);
        LacedHouse y = Due.told("guest at 3 size 40 to 9");
        due.is("200", y.stuck(0, 200), 200);
        due.is("201 is too late", y.stuck(0, 201), Due.NONE);
        due.is("9999 may be asked", y.stuck(0, 9999), Due.NONE);
        due.is("10000 may not", y.stuck(0, 10000), Due.BEYOND);
        due.is("-1 may not", y.stuck(0, -1), Due.BEYOND);
        due.is("no guest 1", y.stuck(1, 0), Due.BEYOND);
        due.is("no guest -1", y.stuck(-1, 0), Due.BEYOND);
    }

    private static void nothingChanges() {
        LacedHouse x = cookOnHerWay();
        x.ahead(1, 1, 100);
        x.strain(100);
        x.snaps();
        x.comes(1, 3);
        x.stuck(1, 3);
        due.is("hour", x.now(0), 0);
        due.is("strain", x.now(2), 0);
        due.is("snapped", x.now(3), 0);
        due.is("cell", x.of(1, 1), 0);
        due.is("stuck", x.of(1, 4), 0);
    }
}
