/** The edges of an HOUR (Terms, 2) and of promises 11 and 12. */
public final class HoursEdgesTest {
    private static final int MIN = Integer.MIN_VALUE;
    private static final int MAX = Integer.MAX_VALUE;

    private static final Due due = new Due();
    private static final Acts lived = new Acts(due, Acts::lived);
    private static final Acts empty = new Acts(due, LacedHouse::new);

    public static void main(String[] args) {
        go();
        lastHours();
        behindTheLastHour();
        stepsOfEachKind();
        wideEnough();
        stuckOrNot();
        stuckLimits();
        butterFromThreeOn();
        nurseAtOddHours();
        theListGoesRound();
        boysLaughByThrees();
        lessWhatTheyLace();
        strainLimits();
        theCordsLimit();
        theHourInWhichItGoes();
        home();
        now();
        nowSetsOfEight();
        cellsThatAreNothingWide();
        due.end();
    }

    private static void go() {
        lived.taken("11: 1 HOUR", x -> x.go(1), 70, "hour 1 > 2", "strain 55 > 70", "guest 0 stuck 1 > 2");
        lived.taken("11: 2 HOURS", x -> x.go(2), 92, "hour 1 > 3", "strain 55 > 92", "guest 0 stuck 1 > 3");
        empty.taken("11: 59 HOURS", x -> x.go(59), 210, "hour 0 > 59", "strain 0 > 210", "snapped 0 > 1");
        empty.taken("11: 60 HOURS", x -> x.go(60), 210, "hour 0 > 60", "strain 0 > 210", "snapped 0 > 1");
        Acts loose = new Acts(due, () -> Acts.laced(35));
        loose.taken("11: each of 60 HOURS", x -> x.go(60), 60, "hour 0 > 60", "strain 0 > 60");
        for (int n : new int[] {0, -1, 61, 62, MIN, MAX}) {
            lived.refused("11: go " + n, x -> x.go(n), Due.BEYOND);
        }
    }

    private static LacedHouse atHour(int hour) {
        LacedHouse x = Acts.laced(36);
        x.guest(Due.NURSE, 3);
        for (int h = 0; h < hour; h += 60) {
            x.go(Math.min(60, hour - h));
        }
        return x;
    }

    /** No object comes so far within its 512 calls, and what it answers behind them is free: this holds ours to the words. */
    private static void lastHours() {
        Acts late = new Acts(due, () -> atHour(99979));
        late.taken("11: HOUR would be 99999", x -> x.go(20), 0, "hour 99979 > 99999");
        late.refused("11: HOUR would be 100000", x -> x.go(21), Due.STATE);
        late.refused("11: HOUR would be 100039", x -> x.go(60), Due.STATE);
        late.refused("11: BEYOND is asked ahead of STATE, above", x -> x.go(61), Due.BEYOND);
        late.refused("11: BEYOND is asked ahead of STATE, below", x -> x.go(0), Due.BEYOND);
        late.refused("11: no overflow", x -> x.go(MAX), Due.BEYOND);
        late.refused("25: BEYOND is asked ahead of STATE, above", x -> x.party(21), Due.BEYOND);
        LacedHouse y = atHour(99979);
        y.party(20);
        due.is("25: HOUR would be 99999", y.now(0), 99999);
        Acts later = new Acts(due, () -> atHour(99980));
        later.refused("25: HOUR would be 100000", x -> x.party(20), Due.STATE);
        Acts last = new Acts(due, () -> atHour(99999));
        last.refused("11: no HOUR more", x -> x.go(1), Due.STATE);
        last.refused("25: no party more", x -> x.party(1), Due.STATE);
        last.refused("25: BEYOND is asked ahead of STATE, below", x -> x.party(0), Due.BEYOND);
    }

    private static void behindTheLastHour() {
        LacedHouse x = atHour(99998);
        due.is("HOUR 99998 is even", x.ahead(0, 6, 0), 8);
        for (int n = 1; n < 4; n++) {
            due.is("HOUR is 99999 at most, which is odd", x.ahead(0, 6, n), 9);
        }
        due.is("HOURS go by all the same", x.strain(100), 0);
    }

    private static void stepsOfEachKind() {
        int[] steps = {2, 1, 4, 3, 2, 5, 1};
        for (int kind = 0; kind < 7; kind++) {
            for (int far = 0; far <= steps[kind] + 1; far++) {
                LacedHouse x = Acts.laced(36);
                x.guest(kind, 0);
                x.change(0, 3, far);
                x.guest(kind, 15);
                x.change(1, 3, 15 - far);
                x.go(1);
                int gone = Math.min(far, steps[kind]);
                due.is("KIND " + kind + " aims " + far + " up", x.of(0, 1), gone);
                due.is("KIND " + kind + " aims " + far + " down", x.of(1, 1), 15 - gone);
                due.is("KIND " + kind + " is not STUCK", x.now(4), 0);
            }
            LacedHouse y = Acts.laced(36);
            y.guest(kind, 0);
            y.change(0, 3, 15);
            int hours = (15 + steps[kind] - 1) / steps[kind];
            y.go(hours - 1);
            due.is("KIND " + kind + " is almost there", y.of(0, 1), steps[kind] * (hours - 1));
            y.go(1);
            due.is("KIND " + kind + " from end to end", y.of(0, 1), 15);
        }
    }

    private static LacedHouse beforeACell(int base, int direction) {
        LacedHouse x = new LacedHouse();
        x.guest(Due.GUEST, 7);
        x.change(0, 3, 7 + 5 * direction);
        x.cell(7 + 2 * direction, base);
        return x;
    }

    private static void wideEnough() {
        for (int direction = -1; direction < 2; direction += 2) {
            LacedHouse x = beforeACell(10, direction);
            x.go(1);
            due.is("as WIDE as it NEEDS", x.of(0, 1), 7 + 2 * direction);
            LacedHouse y = beforeACell(9, direction);
            y.go(1);
            due.is("one less", y.of(0, 1), 7 + direction);
            due.is("it went one CELL, so it isn't STUCK", y.of(0, 4), 0);
            y.go(1);
            due.is("it didn't go", y.of(0, 1), 7 + direction);
            due.is("STUCK 1", y.of(0, 4), 1);
            y.cell(7 + direction, 0);
            y.cell(7 + 2 * direction, 10);
            y.go(1);
            due.is("the CELL where it is need not be WIDE", y.of(0, 1), 7 + 3 * direction);
        }
        LacedHouse a = Due.told("guest at 3 to 4;cell 4 9");
        a.go(3);
        due.is("its AIM must be as WIDE as any", a.of(0, 1), 3);
        due.is("STUCK before its AIM", a.of(0, 4), 3);
        LacedHouse z = Due.told("boy at 3 size 1 to 8;cell 4 0;cell 5 0;cell 6 0;cell 7 0;cell 8 0;measure 0 16");
        z.go(1);
        due.is("one that NEEDS 0 goes through CELLS that are 0 WIDE", z.of(0, 1), 7);
    }

    private static void stuckOrNot() {
        LacedHouse x = Due.told("guest at 3 to 5;cell 4 9");
        x.change(0, 4, 8);
        x.go(1);
        due.is("STUCK is 1 more", x.of(0, 4), 9);
        x.cell(4, 10);
        x.cell(5, 9);
        x.go(1);
        due.is("STUCK is 0 if it went at all", x.of(0, 4), 0);
        x.change(0, 3, 4);
        x.change(0, 4, 8);
        x.go(1);
        due.is("STUCK stays if it is AT its AIM", x.of(0, 4), 8);
        x.change(0, 3, 3);
        x.go(1);
        due.is("STUCK is 0 if it came to its AIM", x.of(0, 4), 0);
    }

    private static void stuckLimits() {
        LacedHouse x = Due.told("guest at 3 to 5;cell 4 9");
        x.change(0, 4, 9997);
        int[] want = {9998, 9999, 9999, 9999};
        for (int stuck : want) {
            x.go(1);
            due.is("STUCK is 9999 at most", x.of(0, 4), stuck);
        }
        x.cell(4, 10);
        x.go(1);
        due.is("from 9999 to 0", x.of(0, 4), 0);
    }

    private static void butterFromThreeOn() {
        // 20 WIDE: 24 is needed without butter, 16 with it.
        for (int stuck = 0; stuck < 6; stuck++) {
            LacedHouse x = Due.told("cook at 3 size 20 to 9");
            x.change(0, 4, stuck);
            x.go(1);
            due.is("a cook STUCK " + stuck + " goes or not", x.of(0, 1), stuck < 3 ? 3 : 4);
            due.is("a cook STUCK " + stuck + " is STUCK then", x.of(0, 4), stuck < 3 ? stuck + 1 : 0);
        }
        // An explorer of 18 needs 28 or 20, one of 19 needs 29 or 21.
        for (int size = 18; size < 20; size++) {
            LacedHouse x = Due.told("explorer at 3 to 9");
            x.change(0, 2, size);
            x.change(0, 4, 3);
            x.go(1);
            due.is("an explorer of " + size + " with butter", x.of(0, 1), size == 18 ? 4 : 3);
        }
    }

    private static void nurseAtOddHours() {
        for (int hour = 0; hour < 5; hour++) {
            LacedHouse x = new LacedHouse();
            if (hour > 0) {
                x.go(hour);
            }
            // Half of 34 and 3 is 20, as WIDE as a CELL is.
            x.guest(Due.NURSE, 3);
            x.change(0, 2, 34);
            x.change(0, 3, 9);
            x.go(1);
            due.is("a nurse at HOUR " + hour, x.of(0, 1), hour % 2 == 0 ? 5 : 3);
        }
    }

    private static void theListGoesRound() {
        LacedHouse x = new LacedHouse();
        x.set(0, 999);
        int[] measures = {16, 20, 23, 29, 33, 36};
        for (int i = 0; i < 6; i++) {
            x.measure(i, measures[i]);
        }
        int strain = 0;
        for (int hour = 0; hour < 20; hour++) {
            due.is("THE MEASURE of HOUR " + hour, x.now(1), measures[hour % 6]);
            strain += 36 - measures[hour % 6];
            due.is("STRAIN behind HOUR " + hour, x.go(1), strain);
        }
        x.set(2, 1);
        due.is("36 if it is SNAPPED", x.now(1), 36);
        x.set(2, 0);
        due.is("THE LIST again if it isn't", x.now(1), measures[20 % 6]);
    }

    private static void boysLaughByThrees() {
        LacedHouse x = Acts.laced(36);
        x.guest(Due.BOY, 0);
        int strain = 0;
        for (int hour = 0; hour < 10; hour++) {
            due.is("a boy's laugh in HOUR " + hour, x.of(0, 8), 3 + hour % 3);
            strain += 3 + hour % 3;
            due.is("STRAIN behind it", x.go(1), strain);
        }
    }

    private static void lessWhatTheyLace() {
        // At 33 each hour strains by 3; a maid laces 4.
        for (int strain = 0; strain < 4; strain++) {
            LacedHouse x = Acts.laced(33);
            x.guest(Due.MAID, 9);
            x.set(1, strain);
            due.is("STRAIN " + strain + ", and 3, less 4, 0 at least", x.go(1), Math.max(0, strain - 1));
            due.is("not SNAPPED", x.now(3), 0);
        }
        // More first and then less: 9 and 20, less 8, is not 0 and 20.
        LacedHouse y = Acts.laced(16);
        y.guest(Due.NURSE, 0);
        y.set(1, 5);
        due.is("5, and 20 and 1, less 8", y.go(1), 18);
        LacedHouse z = Acts.laced(36);
        for (int g = 0; g < 8; g++) {
            z.guest(Due.NURSE, 1);
        }
        z.set(1, 64);
        z.set(0, 999);
        due.is("eight nurses lace 64", z.go(1), 0);
        z.set(1, 65);
        due.is("and leave 1 of 65", z.go(1), 1);
    }

    private static void strainLimits() {
        for (int strain = 9979; strain <= 9999; strain++) {
            LacedHouse x = Acts.laced(16);
            x.set(1, strain);
            due.is("STRAIN " + strain + ", and 20, 9999 at most", x.go(1), Math.min(9999, strain + 20));
        }
        LacedHouse y = Acts.laced(16);
        y.guest(Due.MAID, 3);
        y.set(1, 9999);
        due.is("9999, and 20, less 4, 9999 at most", y.go(1), 9999);
        LacedHouse z = Acts.laced(36);
        z.guest(Due.MAID, 3);
        z.set(1, 9999);
        due.is("9999 less 4", z.go(1), 9995);
        due.is("above CORD all the same", z.now(3), 1);
        LacedHouse e = Acts.laced(16);
        for (int g = 0; g < 8; g++) {
            e.guest(Due.EXPLORER, 0);
        }
        due.is("the most in an HOUR: 20 and 8 times 50", e.go(1), 420);
    }

    private static void theCordsLimit() {
        int[][] rows = {
            // cord, strain before an hour at 35, snapped
            {0, 0, 1}, {1, 0, 0}, {1, 1, 1}, {200, 198, 0}, {200, 199, 0}, {200, 200, 1}, {999, 997, 0}, {999, 998, 0},
            {999, 999, 1}, {999, 9999, 1},
        };
        for (int[] r : rows) {
            LacedHouse x = Acts.laced(35);
            x.set(0, r[0]);
            x.set(1, r[1]);
            x.go(1);
            due.is("STRAIN " + (r[1] + 1) + " and CORD " + r[0], x.now(3), r[2]);
        }
        LacedHouse y = Acts.laced(36);
        y.set(0, 0);
        y.go(60);
        due.is("STRAIN 0 isn't above CORD 0", y.now(3), 0);
        LacedHouse z = Acts.laced(33);
        z.guest(Due.MAID, 0);
        z.set(0, 0);
        z.set(1, 1);
        z.go(1);
        due.is("asked behind the lacing", z.now(3), 0);
    }

    private static void theHourInWhichItGoes() {
        // 28 WIDE is needed: at 36 it is 30, at 26 it isn't.
        LacedHouse x = Due.told("guest at 3 size 28 to 9;cord 9");
        due.is("it goes", x.go(1), 10);
        due.is("at the MEASURE of before", x.of(0, 1), 3);
        due.is("STRAIN stays then", x.go(1), 10);
        due.is("at 36 then", x.of(0, 1), 5);
        x.guest(Due.EXPLORER, 0);
        x.guest(Due.NURSE, 0);
        due.is("nobody strains or laces what is SNAPPED", x.go(3), 10);
        due.is("HOUR goes on", x.now(0), 5);
    }

    private static void home() {
        LacedHouse x = Due.told("guest at 3 to 9;explorer;nurse at 2;guest at 3 to 9 ;cell 4 5");
        x.change(0, 5, 1);
        x.change(1, 5, 1);
        x.change(2, 5, 1);
        x.change(0, 4, 2);
        due.is("nobody HOME laughs or laces", x.go(1), 10);
        due.is("nor is STUCK more", x.of(0, 4), 2);
        due.is("the other one is", x.of(3, 4), 1);
        x.cell(4, 20);
        x.go(1);
        due.is("nor goes", x.of(0, 1), 3);
        due.is("nor is STUCK less", x.of(0, 4), 2);
        due.is("the other one goes", x.of(3, 1), 5);
    }

    private static void now() {
        int[] want = {1, 26, 55, 0, 0b011, 0b010, 0b010, 0};
        for (int what = 0; what < 8; what++) {
            int asked = what;
            lived.taken("12: now " + what, x -> x.now(asked), want[what]);
        }
        for (int what : new int[] {-1, 8, 9, MIN, MAX}) {
            lived.refused("12: now " + what, x -> x.now(what), Due.BEYOND);
        }
        LacedHouse y = new LacedHouse();
        y.set(1, 9999);
        due.is("12: the greatest STRAIN", y.now(2), 9999);
        y.measure(0, 16);
        due.is("12: the least MEASURE", y.now(1), 16);
    }

    private static void nowSetsOfEight() {
        LacedHouse x = new LacedHouse();
        for (int g = 0; g < 8; g++) {
            x.guest(Due.GUEST, 0);
        }
        due.is("12: all eight AT their AIMS", x.now(5), 0xff);
        due.is("12: all eight in the hall", x.now(6), 0xff);
        due.is("12: none STUCK", x.now(4), 0);
        for (int g = 0; g < 8; g++) {
            x.change(g, 4, 1);
        }
        due.is("12: all eight STUCK", x.now(4), 0xff);
        x.change(7, 4, 0);
        due.is("12: STUCK 0 isn't", x.now(4), 0x7f);
        x.change(7, 4, 9999);
        x.change(0, 4, 0);
        due.is("12: nor the first one", x.now(4), 0xfe);
        x.change(7, 1, 1);
        due.is("12: AT 1 isn't AT 0", x.now(6), 0x7f);
        due.is("12: nor AT its AIM", x.now(5), 0x7f);
        x.change(7, 3, 1);
        due.is("12: but with another AIM", x.now(5), 0xff);
        x.change(0, 5, 1);
        due.is("12: one HOME isn't in the hall", x.now(6), 0x7e);
        due.is("12: but AT its AIM", x.now(5), 0xff);
        x.change(1, 5, 1);
        due.is("12: and STUCK", x.now(4), 0xfe);
    }

    private static void cellsThatAreNothingWide() {
        LacedHouse x = new LacedHouse();
        for (int c = 0; c < 16; c++) {
            x.cell(c, 0);
        }
        due.is("12: BASE 0 at 26", x.now(7), 0xffff);
        x.measure(0, 27);
        due.is("12: 1 WIDE", x.now(7), 0);
        x.measure(0, 16);
        x.cell(0, 10);
        x.cell(15, 11);
        due.is("12: BASE 10 at 16 is 0, 11 is 1", x.now(7), 0x7fff);
        x.cell(0, 11);
        x.cell(15, 10);
        due.is("12: the other way round", x.now(7), 0xfffe);
        x.set(2, 1);
        due.is("12: at 36, if it is SNAPPED", x.now(7), 0);
    }
}
