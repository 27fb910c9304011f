/** The edges of promises 13 to 17: what will be behind the least and the greatest number of HOURS, and NONE behind that. */
public final class AheadEdgesTest {
    private static final int MIN = Integer.MIN_VALUE;
    private static final int MAX = Integer.MAX_VALUE;

    private static final Due due = new Due();
    private static final Acts lived = new Acts(due, Acts::lived);
    private static final Acts empty = new Acts(due, LacedHouse::new);
    private static final Acts eightDogs = new Acts(due, () -> Acts.dogs(8));

    public static void main(String[] args) {
        ahead();
        aheadRefused();
        strain();
        strainLimits();
        snaps();
        comes();
        comesAtTheLastHour();
        stuck();
        stuckAtTheLastHour();
        due.end();
    }

    /** At 35 in each HOUR all cells are 29 wide, so one of 30 is stuck until the cord goes. */
    private static LacedHouse waiting(int cord) {
        LacedHouse x = Acts.laced(35);
        x.guest(Due.GUEST, 3);
        x.change(0, 2, 30);
        x.change(0, 3, 4);
        x.set(0, cord);
        return x;
    }

    private static void ahead() {
        lived.taken("13: CELL behind 0", x -> x.ahead(0, 1, 0), 3);
        lived.taken("13: STUCK behind 0", x -> x.ahead(0, 4, 0), 1);
        lived.taken("13: NEEDS behind 0", x -> x.ahead(0, 6, 0), 12);
        lived.taken("13: STUCK behind 1", x -> x.ahead(0, 4, 1), 2);
        lived.taken("13: the last one", x -> x.ahead(2, 1, 100), 14);
        lived.taken("13: NEEDS of the cook with butter", x -> x.ahead(1, 6, 100), 6);
        Acts wait = new Acts(due, () -> waiting(999));
        for (int n : new int[] {0, 1, 2, 99, 100}) {
            wait.taken("13: STUCK behind " + n, x -> x.ahead(0, 4, n), n);
            wait.taken("13: CELL behind " + n, x -> x.ahead(0, 1, n), 3);
        }
        Acts until99 = new Acts(due, () -> waiting(98));
        until99.taken("13: CELL behind 99", x -> x.ahead(0, 1, 99), 3);
        until99.taken("13: CELL behind 100", x -> x.ahead(0, 1, 100), 4);
        until99.taken("13: STUCK behind 100", x -> x.ahead(0, 4, 100), 0);
        LacedHouse n = Due.told("nurse at 3 size 1");
        for (int k = 0; k <= 100; k++) {
            due.is("13: NEEDS of a nurse behind " + k, n.ahead(0, 6, k), 3 + k % 2);
        }
        LacedHouse s = Due.told("guest at 3 to 5;cell 4 0");
        s.change(0, 4, 9998);
        due.is("13: STUCK is 9999 at most", s.ahead(0, 4, 1), 9999);
        due.is("13: STUCK is 9999 at most later, too", s.ahead(0, 4, 2), 9999);
        eightDogs.taken("13: the eighth one", x -> x.ahead(7, 1, 100), 7);
    }

    private static void aheadRefused() {
        for (int n : new int[] {-1, 101, MIN, MAX}) {
            lived.refused("13: " + n + " HOURS", x -> x.ahead(0, 1, n), Due.BEYOND);
            lived.refused("13: STUCK, " + n + " HOURS", x -> x.ahead(0, 4, n), Due.BEYOND);
            lived.refused("13: NEEDS, " + n + " HOURS", x -> x.ahead(0, 6, n), Due.BEYOND);
        }
        for (int what : new int[] {-1, 0, 2, 3, 5, 7, 8, 9, 10, MIN, MAX}) {
            lived.refused("13: what " + what, x -> x.ahead(0, what, 0), Due.BEYOND);
        }
        for (int g : new int[] {-1, 3, MIN, MAX}) {
            lived.refused("13: guest " + g, x -> x.ahead(g, 1, 0), Due.BEYOND);
        }
        empty.refused("13: nobody is there", x -> x.ahead(0, 1, 0), Due.BEYOND);
        eightDogs.refused("13: no ninth one", x -> x.ahead(8, 1, 0), Due.BEYOND);
    }

    private static void strain() {
        lived.taken("14: behind 0", x -> x.strain(0), 55);
        lived.taken("14: behind 1", x -> x.strain(1), 70);
        lived.taken("14: behind 2", x -> x.strain(2), 92);
        for (int n : new int[] {-1, 101, MIN, MAX}) {
            lived.refused("14: " + n + " HOURS", x -> x.strain(n), Due.BEYOND);
        }
        Acts loose = new Acts(due, () -> Acts.laced(35));
        for (int n : new int[] {0, 1, 99, 100}) {
            loose.taken("14: behind " + n, x -> x.strain(n), n);
        }
    }

    private static void strainLimits() {
        LacedHouse x = Acts.laced(35);
        x.set(0, 99);
        due.is("14: behind 100 it is above 99", x.strain(100), 100);
        x.set(0, 98);
        due.is("14: behind 99 it went", x.strain(100), 99);
        x.set(1, 9999);
        due.is("14: 9999 at most", x.strain(1), 9999);
        LacedHouse y = Acts.laced(36);
        y.guest(Due.MAID, 3);
        y.set(1, 7);
        due.is("14: less", y.strain(1), 3);
        due.is("14: 0 at least", y.strain(2), 0);
        due.is("14: 0 at least for long", y.strain(100), 0);
    }

    private static Acts cords(int cord) {
        return new Acts(due, () -> {
            LacedHouse x = Acts.laced(35);
            x.set(0, cord);
            return x;
        });
    }

    private static void snaps() {
        cords(0).taken("15: behind 1", LacedHouse::snaps, 1);
        cords(198).taken("15: behind 199", LacedHouse::snaps, 199);
        cords(199).taken("15: behind 200", LacedHouse::snaps, 200);
        cords(200).refused("15: behind 201", LacedHouse::snaps, Due.NONE);
        cords(999).refused("15: much later", LacedHouse::snaps, Due.NONE);
        Acts gone = new Acts(due, () -> {
            LacedHouse x = new LacedHouse();
            x.set(2, 1);
            return x;
        });
        gone.taken("15: behind 0", LacedHouse::snaps, 0);
        LacedHouse y = new LacedHouse();
        y.set(1, 9999);
        due.is("15: STRAIN above CORD now, SNAPPED behind 1", y.snaps(), 1);
        LacedHouse z = Acts.laced(36);
        z.set(0, 0);
        due.is("15: never", z.snaps(), Due.NONE);
    }

    private static void comes() {
        lived.taken("16: it is there", x -> x.comes(0, 3), 0);
        lived.taken("16: AT 0, it is there", x -> x.comes(1, 0), 0);
        lived.refused("16: it never goes there", x -> x.comes(1, 1), Due.NONE);
        lived.refused("16: one HOME never does", x -> x.comes(2, 1), Due.NONE);
        lived.taken("16: one HOME is where it is", x -> x.comes(2, 14), 0);
        int[][] refused = {{-1, 0}, {3, 0}, {0, -1}, {0, 16}, {-1, 15}, {3, 15}, {2, 16}, {MIN, 0}, {MAX, 0}, {0, MIN}, {0, MAX}};
        for (int[] r : refused) {
            lived.refused("16: comes " + r[0] + " " + r[1], x -> x.comes(r[0], r[1]), Due.BEYOND);
        }
        empty.refused("16: nobody is there", x -> x.comes(0, 0), Due.BEYOND);
        eightDogs.taken("16: the eighth one", x -> x.comes(7, 7), 0);
        eightDogs.refused("16: no ninth one", x -> x.comes(8, 0), Due.BEYOND);
        LacedHouse y = Acts.cookOnButter();
        for (int k = 0; k <= 15; k++) {
            due.is("16: CELL " + (15 - k), y.comes(0, 15 - k), 4 * k);
        }
        LacedHouse z = Due.told("guest to 15;dog at 15 to 0;cord 999");
        due.is("16: from 0 to 15", z.comes(0, 15), 8);
        due.is("16: from 15 to 0", z.comes(1, 0), 3);
        due.is("16: gone past, not AT it", z.comes(0, 13), Due.NONE);
    }

    private static void comesAtTheLastHour() {
        new Acts(due, () -> waiting(197)).taken("16: behind 199", x -> x.comes(0, 4), 199);
        new Acts(due, () -> waiting(198)).taken("16: behind 200", x -> x.comes(0, 4), 200);
        new Acts(due, () -> waiting(199)).refused("16: behind 201", x -> x.comes(0, 4), Due.NONE);
    }

    private static void stuck() {
        lived.taken("17: 0 or more", x -> x.stuck(0, 0), 0);
        lived.taken("17: as much as now", x -> x.stuck(0, 1), 0);
        lived.taken("17: one more", x -> x.stuck(0, 2), 1);
        lived.taken("17: less than now", x -> x.stuck(1, 4), 0);
        lived.taken("17: as much as now, the cook", x -> x.stuck(1, 5), 0);
        lived.refused("17: AT its AIM it is never STUCK more", x -> x.stuck(1, 6), Due.NONE);
        lived.refused("17: 9999 may be asked", x -> x.stuck(0, 9999), Due.NONE);
        lived.refused("17: one HOME is never STUCK more", x -> x.stuck(2, 1), Due.NONE);
        int[][] refused = {{0, -1}, {0, 10000}, {2, -1}, {2, 10000}, {-1, 0}, {3, 0}, {MIN, 0}, {MAX, 0}, {0, MIN}, {0, MAX}};
        for (int[] r : refused) {
            lived.refused("17: stuck " + r[0] + " " + r[1], x -> x.stuck(r[0], r[1]), Due.BEYOND);
        }
        empty.refused("17: nobody is there", x -> x.stuck(0, 0), Due.BEYOND);
        eightDogs.taken("17: the eighth one", x -> x.stuck(7, 0), 0);
        eightDogs.refused("17: no ninth one", x -> x.stuck(8, 0), Due.BEYOND);
    }

    private static void stuckAtTheLastHour() {
        Acts wait = new Acts(due, () -> waiting(999));
        wait.taken("17: 1", x -> x.stuck(0, 1), 1);
        wait.taken("17: 199", x -> x.stuck(0, 199), 199);
        wait.taken("17: 200", x -> x.stuck(0, 200), 200);
        wait.refused("17: 201", x -> x.stuck(0, 201), Due.NONE);
        LacedHouse y = waiting(999);
        y.change(0, 4, 9800);
        due.is("17: 9999 behind 199", y.stuck(0, 9999), 199);
        y.change(0, 4, 9799);
        due.is("17: 9999 behind 200", y.stuck(0, 9999), 200);
        y.change(0, 4, 9798);
        due.is("17: 9999 behind 201", y.stuck(0, 9999), Due.NONE);
        y.change(0, 4, 9999);
        due.is("17: 9999 now", y.stuck(0, 9999), 0);
    }
}
