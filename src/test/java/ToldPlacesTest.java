/** Promises 23 and 24: measures and kinds by told places. */
public final class ToldPlacesTest {
    private static final Due due = new Due();

    public static void main(String[] args) {
        fits();
        kinds();
        findings();
        nothingChanges();
        due.end();
    }

    private static void fits() {
        for (int bits = 8; bits <= 32; bits *= 2) {
            LacedHouse x = Due.told("guest to 6;cord 999");
            x.sheet(0, bits, 0);
            due.is("an empty sheet fits any", x.fits(0, 0), 21);
            Due.tell(x, 0, bits, 2, 4, 6, 6);
            due.is("10 is as wide as at 16", x.fits(0, 0), 21);
            x.change(0, 2, 15);
            due.is("21 and more", x.fits(0, 0), 16);
            Due.tell(x, 0, bits, 0, 2);
            due.is("stuck at 16 to 20", x.fits(0, 0), 5);
            Due.tell(x, 0, bits, 0, -1, 4);
            due.is("any at the second", x.fits(0, 0), 5);
            Due.tell(x, 0, bits, -1, -1, -1);
            due.is("any", x.fits(0, 0), 21);
            Due.tell(x, 0, bits, 1);
            due.is("never 1", x.fits(0, 0), 0);
            Due.tell(x, 0, bits, -2);
            due.is("never -2", x.fits(0, 0), 0);
        }
        LacedHouse y = Due.told("guest size 15 to 15;cord 999;measure 1 16;measure 2 16;measure 3 16;measure 4 16;measure 5 16");
        Due.tell(y, 1, 8, 2, 2, 2, 2, 2, 2, 4);
        due.is("the place is come to again", y.fits(1, 0), 16);
        y.go(1);
        due.is("another hour, another place", y.fits(1, 0), 0);
        Due.tell(y, 1, 8, 4, 4, 4, 4, 4);
        due.is("the place of this hour", y.fits(1, 0), 16);
        // At 16 to 18 it snaps in the first hour, and all is wide in the second.
        LacedHouse z = Due.told("guest at 1 size 28 to 9;cord 17");
        Due.tell(z, 2, 16, 1, 3);
        due.is("the cord goes", z.fits(2, 0), 3);
        LacedHouse w = Due.told("guest to 6");
        w.set(2, 1);
        Due.tell(w, 3, 32, 2, 4);
        due.is("snapped: the list does not matter", w.fits(3, 0), 21);
        Due.tell(w, 3, 8, 2 + 256, 4 - 512);
        due.is("lowest bits", w.fits(3, 0), 21);
        Due.tell(w, 3, 8, 255, 4);
        due.is("255 in 8 bits is -1", w.fits(3, 0), 21);
        Due.tell(w, 3, 16, 65535, 4);
        due.is("65535 in 16 bits is -1", w.fits(3, 0), 21);
        Due.tell(w, 3, 16, 255, 4);
        due.is("255 in 16 bits is not", w.fits(3, 0), 0);
        w.sheet(3, 8, 40);
        due.is("40 numbers may be told", w.fits(3, 0), 0);
    }

    private static void kinds() {
        LacedHouse x = Due.told("guest to 12;cord 999");
        Due.tell(x, 0, 8, 2);
        due.is("guest or nurse", x.kinds(0, 0), 1 << Due.GUEST | 1 << Due.NURSE);
        Due.tell(x, 0, 8, 1, 2);
        due.is("cook or explorer", x.kinds(0, 0), 1 << Due.COOK | 1 << Due.EXPLORER);
        Due.tell(x, 0, 8, 4);
        due.is("boy", x.kinds(0, 0), 1 << Due.BOY);
        Due.tell(x, 0, 8, -1, 6);
        due.is("maid", x.kinds(0, 0), 1 << Due.MAID);
        Due.tell(x, 0, 8, -1, -1, 12);
        due.is("boy or dog", x.kinds(0, 0), 1 << Due.BOY | 1 << Due.DOG);
        x.sheet(0, 8, 0);
        due.is("any", x.kinds(0, 0), 127);
        x.change(0, 2, 17);
        Due.tell(x, 0, 32, 1);
        due.is("neither: the cook needs 21", x.kinds(0, 0), 0);
        x.change(0, 4, 3);
        due.is("both with butter", x.kinds(0, 0), 1 << Due.COOK | 1 << Due.EXPLORER);
    }

    private static void findings() {
        LacedHouse x = new LacedHouse();
        due.is("fits: no sheet -1", x.fits(-1, 0), Due.BEYOND);
        due.is("fits: no sheet 4", x.fits(4, 0), Due.BEYOND);
        due.is("fits: missing is asked ahead of the guest", x.fits(1, 0), Due.MISSING);
        due.is("kinds: no sheet -1", x.kinds(-1, 0), Due.BEYOND);
        due.is("kinds: no sheet 4", x.kinds(4, 0), Due.BEYOND);
        due.is("kinds: missing is asked ahead of the guest", x.kinds(1, 0), Due.MISSING);
        x.sheet(1, 8, 3);
        due.is("fits: no guest 0", x.fits(1, 0), Due.BEYOND);
        due.is("fits: no guest -1", x.fits(1, -1), Due.BEYOND);
        due.is("kinds: no guest 0", x.kinds(1, 0), Due.BEYOND);
        due.is("kinds: no guest -1", x.kinds(1, -1), Due.BEYOND);
    }

    private static void nothingChanges() {
        LacedHouse x = Due.told("guest to 6;measure 0 20");
        Due.tell(x, 0, 8, 2, 4, 6);
        x.fits(0, 0);
        x.kinds(0, 0);
        due.is("hour", x.now(0), 0);
        due.is("cell", x.of(0, 1), 0);
        due.is("kind", x.of(0, 0), Due.GUEST);
        due.is("list", x.listed(0), 20);
        due.is("strain", x.now(2), 0);
    }
}
