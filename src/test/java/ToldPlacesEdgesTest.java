/** The edges of promises 23 and 24: no sheet, a missing one, an empty and a full one, no guest, none and all that could be. */
public final class ToldPlacesEdgesTest {
    private static final int MIN = Integer.MIN_VALUE;
    private static final int MAX = Integer.MAX_VALUE;
    private static final int ALL_KINDS = 0b1111111;

    private static final Due due = new Due();
    private static final Acts lived = new Acts(due, Acts::lived);

    public static void main(String[] args) {
        sheetsThatAre();
        findings();
        emptyHouse();
        emptySheets();
        fullSheets();
        anyInEachWidth();
        numbersThatAreNoCells();
        howManyFit();
        thePlaceOfThisHour();
        whichKinds();
        due.end();
    }

    private static void sheetsThatAre() {
        // Guest 0 is stuck at 3 before cell 4, of base 9, and needs 12: 3, any, 14 is never so.
        lived.taken("23: sheet 0", x -> x.fits(0, 0), 0);
        lived.taken("23: sheet 2, which is empty", x -> x.fits(2, 0), 21);
        lived.taken("23: the last guest, who is HOME, AT 14", x -> x.fits(2, 2), 21);
        lived.taken("24: sheet 0", x -> x.kinds(0, 0), 0);
        lived.taken("24: sheet 2, which is empty", x -> x.kinds(2, 0), ALL_KINDS);
        Acts last = new Acts(due, () -> {
            LacedHouse x = Acts.lived();
            Due.tell(x, 3, 32, 3, -1, 3);
            return x;
        });
        // Cell 4 is 12 wide at 29 to 36. Of its 9, 2 and 9 in these hours a cook takes the last, with butter; a nurse needs 10
        // in the first and in the last.
        last.taken("23: sheet 3", x -> x.fits(3, 0), 13);
        last.taken("24: sheet 3", x -> x.kinds(3, 0), 1 << Due.GUEST | 1 << Due.NURSE | 1 << Due.EXPLORER);
    }

    private static void findings() {
        for (int s : new int[] {-1, 4, MIN, MAX}) {
            for (int g : new int[] {0, -1, 3}) {
                lived.refused("23: no sheet " + s + ", guest " + g, x -> x.fits(s, g), Due.BEYOND);
                lived.refused("24: no sheet " + s + ", guest " + g, x -> x.kinds(s, g), Due.BEYOND);
            }
        }
        for (int g : new int[] {0, 2, -1, 3, MIN, MAX}) {
            lived.refused("23: MISSING is asked ahead of the guest " + g, x -> x.fits(3, g), Due.MISSING);
            lived.refused("24: MISSING is asked ahead of the guest " + g, x -> x.kinds(3, g), Due.MISSING);
        }
        for (int g : new int[] {-1, 3, MIN, MAX}) {
            for (int s = 0; s < 3; s++) {
                int sheet = s;
                lived.refused("23: sheet " + s + ", no guest " + g, x -> x.fits(sheet, g), Due.BEYOND);
                lived.refused("24: sheet " + s + ", no guest " + g, x -> x.kinds(sheet, g), Due.BEYOND);
            }
        }
    }

    private static void emptyHouse() {
        Acts nobody = new Acts(due, () -> {
            LacedHouse x = new LacedHouse();
            x.sheet(0, 8, 0);
            return x;
        });
        nobody.refused("23: no guest 0", x -> x.fits(0, 0), Due.BEYOND);
        nobody.refused("24: no guest 0", x -> x.kinds(0, 0), Due.BEYOND);
        nobody.refused("23: MISSING first", x -> x.fits(1, 0), Due.MISSING);
        nobody.refused("24: MISSING first", x -> x.kinds(1, 0), Due.MISSING);
        LacedHouse e = Acts.dogs(8);
        Due.tell(e, 0, 8, 7, 7);
        due.is("23: the eighth one", e.fits(0, 7), 21);
        due.is("24: the eighth one", e.kinds(0, 7), ALL_KINDS);
        due.is("23: no ninth one", e.fits(0, 8), Due.BEYOND);
        due.is("24: no ninth one", e.kinds(0, 8), Due.BEYOND);
    }

    private static void emptySheets() {
        for (int bits = 8; bits <= 32; bits *= 2) {
            LacedHouse x = Due.told("guest at 3 to 9");
            x.sheet(0, bits, 0);
            due.is("23: nothing told in " + bits + " bits", x.fits(0, 0), 21);
            due.is("24: nothing told in " + bits + " bits", x.kinds(0, 0), ALL_KINDS);
            x.sheet(0, 0, 0);
            due.is("23: no sheet any more", x.fits(0, 0), Due.MISSING);
            due.is("24: no sheet any more", x.kinds(0, 0), Due.MISSING);
        }
    }

    /** Snapped, so that THE LIST does not matter: a cook on butter, AT 15 less k behind 4 times k hours. */
    private static LacedHouse snappedCook(int n, int told) {
        LacedHouse x = Acts.cookOnButter();
        x.set(2, 1);
        x.sheet(1, 8, n);
        for (int i = 0; i < n - 1; i++) {
            x.write(1, i, -1);
        }
        x.write(1, n - 1, told);
        return x;
    }

    private static void fullSheets() {
        int[] behind = {1, 3, 4, 5, 39, 40};
        for (int n : behind) {
            int cell = 15 - n / 4;
            due.is("23: number " + (n - 1) + " tells behind " + n, snappedCook(n, cell).fits(1, 0), 21);
            due.is("23: number " + (n - 1) + " is not so", snappedCook(n, cell - 1).fits(1, 0), 0);
            due.is("23: number " + (n - 1) + " is not so either", snappedCook(n, cell + 1).fits(1, 0), 0);
        }
        // Only a cook is at 5 behind 40 hours; an explorer does not get through, all others are in the hall.
        due.is("24: number 39 tells behind 40", snappedCook(40, 5).kinds(1, 0), 1 << Due.COOK);
        due.is("24: number 38 tells behind 39", snappedCook(39, 6).kinds(1, 0), 1 << Due.COOK);
        due.is("24: an explorer is where he was", snappedCook(40, 15).kinds(1, 0), 1 << Due.EXPLORER);
        due.is("24: the others", snappedCook(40, 0).kinds(1, 0),
            1 << Due.GUEST | 1 << Due.BOY | 1 << Due.MAID | 1 << Due.NURSE | 1 << Due.DOG);
        due.is("24: none", snappedCook(40, 4).kinds(1, 0), 0);
        LacedHouse all = Acts.cookOnButter();
        all.set(2, 1);
        all.sheet(0, 16, 40);
        for (int i = 0; i < 40; i++) {
            all.write(0, i, 15 - (i + 1) / 4);
        }
        due.is("23: all 40 told", all.fits(0, 0), 21);
        due.is("24: all 40 told", all.kinds(0, 0), 1 << Due.COOK);
        all.write(0, 0, 14);
        due.is("23: the first is not so", all.fits(0, 0), 0);
        due.is("24: the first is not so", all.kinds(0, 0), 0);
    }

    private static void anyInEachWidth() {
        for (int bits = 8; bits <= 32; bits *= 2) {
            LacedHouse x = Due.told("guest at 3 to 9");
            Due.tell(x, 0, bits, -1, -1, -1);
            due.is("23: -1 is any in " + bits + " bits", x.fits(0, 0), 21);
            due.is("24: -1 is any in " + bits + " bits", x.kinds(0, 0), ALL_KINDS);
            Due.tell(x, 0, bits, 255);
            due.is("23: 255 in " + bits + " bits", x.fits(0, 0), bits == 8 ? 21 : 0);
            due.is("24: 255 in " + bits + " bits", x.kinds(0, 0), bits == 8 ? ALL_KINDS : 0);
            Due.tell(x, 0, bits, 65535);
            due.is("23: 65535 in " + bits + " bits", x.fits(0, 0), bits <= 16 ? 21 : 0);
            due.is("24: 65535 in " + bits + " bits", x.kinds(0, 0), bits <= 16 ? ALL_KINDS : 0);
        }
    }

    private static void numbersThatAreNoCells() {
        for (int told : new int[] {-2, 16, 100, -128, 127, 32767, -32768, MIN, MAX, 254, 128}) {
            LacedHouse x = Due.told("guest at 15;guest at 0");
            Due.tell(x, 0, 32, told);
            for (int g = 0; g < 2; g++) {
                due.is("23: nobody is AT " + told, x.fits(0, g), 0);
                due.is("24: nobody is AT " + told, x.kinds(0, g), 0);
            }
        }
        LacedHouse y = Due.told("guest at 15;guest");
        Due.tell(y, 0, 8, 15);
        Due.tell(y, 1, 8, 0);
        due.is("23: AT 15", y.fits(0, 0), 21);
        due.is("23: AT 0", y.fits(1, 1), 21);
        due.is("23: AT 15, told 0", y.fits(1, 0), 0);
    }

    private static void howManyFit() {
        // As wide as base and m less 26: through so many measures one of that size goes.
        int[][] rows = {{10, 21}, {11, 20}, {20, 11}, {29, 2}, {30, 1}, {31, 0}};
        for (int[] r : rows) {
            LacedHouse x = Due.told("guest at 3 to 9");
            x.change(0, 2, r[0]);
            Due.tell(x, 0, 8, 5);
            due.is("23: SIZE " + r[0] + " goes", x.fits(0, 0), r[1]);
            Due.tell(x, 0, 8, 3);
            due.is("23: SIZE " + r[0] + " does not", x.fits(0, 0), 21 - r[1]);
        }
    }

    private static void thePlaceOfThisHour() {
        for (int hour = 0; hour < 13; hour++) {
            LacedHouse x = Acts.laced(16);
            x.set(0, 999);
            if (hour > 0) {
                x.go(hour);
            }
            x.guest(Due.GUEST, 3);
            x.change(0, 2, 30);
            x.change(0, 3, 15);
            // At 36 alone it goes, in this hour and in the one six hours on.
            Due.tell(x, 0, 8, 5, 5, 5, 5, 5, 5, 7);
            due.is("23: the place of HOUR " + hour, x.fits(0, 0), 1);
            due.is("23: THE LIST stays", x.listed(hour % 6), 16);
        }
    }

    private static void whichKinds() {
        int[] steps = {2, 1, 4, 3, 2, 5, 1};
        for (int far = 0; far < 7; far++) {
            int set = 0;
            for (int kind = 0; kind < 7; kind++) {
                set |= steps[kind] == far ? 1 << kind : 0;
            }
            for (int kind = 0; kind < 7; kind++) {
                LacedHouse x = Acts.laced(36);
                x.guest(kind, 0);
                x.change(0, 3, 15);
                Due.tell(x, 0, 8, far);
                due.is("24: " + far + " CELLS in an HOUR, whatever it is", x.kinds(0, 0), set);
                due.is("24: KIND stays", x.of(0, 0), kind);
            }
        }
    }
}
