/** Promises 11 and 12: hours that go by, and what is now. */
public final class HoursTest {
    private static final Due due = new Due();

    public static void main(String[] args) {
        limits();
        walking();
        stuckHours();
        butter();
        nurse();
        straining();
        snapping();
        strainLimits();
        homeGuests();
        nowSets();
        due.end();
    }

    private static void limits() {
        LacedHouse x = new LacedHouse();
        due.is("go -1", x.go(-1), Due.BEYOND);
        due.is("go 0", x.go(0), Due.BEYOND);
        due.is("go 61", x.go(61), Due.BEYOND);
        due.is("hour stays", x.now(0), 0);
        for (int i = 0; i < 6; i++) {
            x.measure(i, 36);
        }
        due.is("go 60", x.go(60), 0);
        due.is("hour 60", x.now(0), 60);
        due.is("now -1", x.now(-1), Due.BEYOND);
        due.is("now 8", x.now(8), Due.BEYOND);
        // An object has 512 calls only; what it does behind them is free, so this only holds it to its own word.
        LacedHouse y = new LacedHouse();
        for (int i = 0; i < 1666; i++) {
            y.go(60);
        }
        due.is("hour 99960", y.now(0), 99960);
        due.is("go too far", y.go(40), Due.STATE);
        due.is("beyond is asked first", y.go(61), Due.BEYOND);
        y.party(20);
        due.is("a party as far as it goes", y.party(19), y.now(2));
        due.is("a party's hours", y.now(0), 99999);
        LacedHouse w = new LacedHouse();
        for (int i = 0; i < 1666; i++) {
            w.go(60);
        }
        due.is("just as far as it goes", w.go(39), w.now(2));
        due.is("as far as it goes", y.now(0), 99999);
        due.is("no hour more", y.go(1), Due.STATE);
        due.is("no party more", y.party(1), Due.STATE);
        due.is("beyond is asked first by party, too", y.party(21), Due.BEYOND);
        due.is("hour stays", y.now(0), 99999);
    }

    private static void walking() {
        LacedHouse x = Due.told("guest to 5;cook at 9 to 6;boy at 15 to 1;maid to 7;nurse at 8 to 3;dog to 12;explorer to 2");
        x.go(1);
        int[] behindOne = {2, 8, 11, 3, 6, 5, 1};
        for (int g = 0; g < 7; g++) {
            due.is("cell of " + g + " behind an hour", x.of(g, 1), behindOne[g]);
        }
        LacedHouse y = Due.told("guest to 5;boy at 15 to 1;dog at 14 to 12");
        y.go(1);
        due.is("not beyond the aim", y.of(2, 1), 12);
        y.go(1);
        due.is("guest behind two", y.of(0, 1), 4);
        due.is("boy behind two", y.of(1, 1), 7);
        y.go(1);
        due.is("guest at its aim", y.of(0, 1), 5);
        y.go(1);
        due.is("boy at its aim", y.of(1, 1), 1);
        y.go(1);
        due.is("it stays there", y.of(1, 1), 1);
    }

    private static void stuckHours() {
        LacedHouse x = Due.told("guest at 1 to 8;cell 3 5;cell 4 5");
        x.go(1);
        due.is("goes as far as it can", x.of(0, 1), 2);
        due.is("it went", x.of(0, 4), 0);
        x.go(1);
        due.is("stuck 1", x.of(0, 4), 1);
        x.go(5);
        due.is("stuck 6", x.of(0, 4), 6);
        x.cell(3, 10);
        x.go(1);
        due.is("as wide as needed is enough", x.of(0, 1), 3);
        due.is("not stuck any more", x.of(0, 4), 0);
        x.change(0, 4, 9999);
        x.go(2);
        due.is("9999 at most", x.of(0, 4), 9999);
        x.change(0, 3, 3);
        x.change(0, 4, 7);
        x.go(3);
        due.is("one at its aim is left as it was", x.of(0, 4), 7);
        x.change(0, 3, 0);
        x.change(0, 4, 7);
        x.go(1);
        due.is("it goes down, too", x.of(0, 1), 1);
        due.is("stuck is 0 then", x.of(0, 4), 0);
    }

    private static void butter() {
        // Needs 24 where 20 is wide: stuck three hours, then one cell with butter, and so on.
        LacedHouse x = Due.told("cook size 20 to 3;cord 999");
        int[] cells = {0, 0, 0, 1, 1, 1, 1, 2};
        int[] stuck = {1, 2, 3, 0, 1, 2, 3, 0};
        for (int i = 0; i < cells.length; i++) {
            x.go(1);
            due.is("cook's cell behind " + (i + 1), x.of(0, 1), cells[i]);
            due.is("cook's stuck behind " + (i + 1), x.of(0, 4), stuck[i]);
        }
    }

    private static void nurse() {
        // Needs 20 at even hours and 21 at odd ones.
        LacedHouse x = Due.told("nurse size 34 to 4");
        x.go(1);
        due.is("at an even hour", x.of(0, 1), 2);
        x.go(1);
        due.is("not at an odd hour", x.of(0, 1), 2);
        due.is("stuck", x.of(0, 4), 1);
        x.go(1);
        due.is("at an even hour again", x.of(0, 1), 4);
    }

    private static void straining() {
        LacedHouse x = Due.told("measure 0 18;measure 1 36;measure 2 16;measure 3 20;measure 4 30;measure 5 35;cord 999");
        int[] strain = {18, 18, 38, 54, 60, 61, 79};
        for (int i = 0; i < strain.length; i++) {
            due.is("strain behind " + (i + 1), x.go(1), strain[i]);
            due.is("now 2", x.now(2), strain[i]);
        }
        LacedHouse y = Due.told("guest;cook;boy;maid;nurse;dog;explorer;boy at 1;cord 999");
        // 10, then 3 + 5 + 3 + 0 + 1 + 2 + 50, less 4 + 8.
        due.is("all laugh and lace", y.go(1), 62);
        due.is("a boy laughs more", y.go(1), 62 + 63);
        due.is("and more", y.go(1), 62 + 63 + 64);
        due.is("and less again", y.go(1), 62 + 63 + 64 + 62);
        LacedHouse w = Due.told("explorer to 5;guest at 1 to 0;cord 999");
        due.is("who came to the hall laughs, who left it does not", w.go(1), 13);
        LacedHouse l = Due.told("maid at 9;nurse at 12;measure 0 36");
        l.set(1, 20);
        due.is("laces wherever she is", l.go(1), 8);
        l.measure(1, 34);
        due.is("0 at least", l.go(1), 0);
    }

    private static void snapping() {
        LacedHouse x = new LacedHouse();
        x.set(0, 20);
        due.is("as much as the cord", x.go(2), 20);
        due.is("holds", x.now(3), 0);
        due.is("above the cord", x.go(1), 30);
        due.is("snapped", x.now(3), 1);
        due.is("36 then", x.now(1), 36);
        due.is("no more strain", x.go(5), 30);
        x.set(2, 0);
        due.is("mended, it goes on", x.go(1), 40);
        due.is("and is snapped again", x.now(3), 1);
        LacedHouse y = Due.told("guest at 2 size 25 to 9;maid at 4;cord 5");
        y.go(1);
        due.is("no way at 26", y.of(0, 1), 2);
        due.is("snapped at once", y.now(3), 1);
        y.go(1);
        due.is("a way at 36", y.of(0, 1), 4);
        due.is("a maid does not lace what is snapped", y.now(2), 6);
        LacedHouse z = Due.told("measure 0 36;cord 0");
        z.go(1);
        due.is("0 is not above 0", z.now(3), 0);
        z.set(1, 3);
        z.set(0, 2);
        due.is("not snapped before the hour", z.now(3), 0);
        z.measure(1, 36);
        z.go(1);
        due.is("snapped by what was there", z.now(3), 1);
    }

    private static void strainLimits() {
        LacedHouse x = Due.told("explorer;explorer;maid at 3");
        x.set(1, 9990);
        due.is("9999 at most, behind the lacing", x.go(1), 9999);
        due.is("snapped", x.now(3), 1);
        LacedHouse y = Due.told("maid;maid;nurse");
        y.set(1, 3);
        due.is("more first, then less, then 0 at least", y.go(1), 0);
        LacedHouse z = Due.told("maid;measure 0 16");
        due.is("0 is the limit of the end only", z.go(1), 16);
    }

    private static void homeGuests() {
        LacedHouse x = Due.told("guest to 5;maid at 3 to 9;explorer;cord 999");
        x.change(0, 5, 1);
        x.change(1, 5, 1);
        x.change(2, 5, 1);
        x.change(0, 4, 4);
        due.is("they neither laugh nor lace", x.go(1), 10);
        due.is("they don't go", x.of(0, 1), 0);
        due.is("nor are they stuck longer", x.of(0, 4), 4);
        x.change(1, 5, 0);
        due.is("back again", x.go(1), 16);
        due.is("goes again", x.of(1, 1), 6);
    }

    private static void nowSets() {
        LacedHouse x = Due.told("guest;cook at 4 size 40 to 9;boy to 2;maid;cell 3 6;cell 7 5;cell 9 7;measure 1 20");
        due.is("hour", x.now(0), 0);
        due.is("at their aims", x.now(5), 0b1001);
        due.is("in the hall", x.now(6), 0b1101);
        due.is("none stuck", x.now(4), 0);
        due.is("none closed", x.now(7), 0);
        x.go(1);
        due.is("hour 1", x.now(0), 1);
        due.is("measure 1", x.now(1), 20);
        due.is("cook is stuck", x.now(4), 0b0010);
        due.is("boy is there", x.now(5), 0b1101);
        due.is("two in the hall", x.now(6), 0b1001);
        due.is("closed", x.now(7), 1 << 3 | 1 << 7);
        x.cell(0, 0);
        x.cell(15, 0);
        due.is("closed at both ends", x.now(7), 1 | 1 << 3 | 1 << 7 | 1 << 15);
        x.change(0, 3, 7);
        x.change(0, 4, 9999);
        x.change(1, 4, 0);
        due.is("the first one is not at its aim", x.now(5), 0b1100);
        due.is("the first one is stuck", x.now(4), 0b0001);
        x.change(0, 3, 0);
        x.change(0, 4, 0);
        x.change(1, 4, 1);
        x.change(0, 5, 1);
        x.change(1, 5, 1);
        due.is("home is not in the hall", x.now(6), 0b1000);
        due.is("home is at its aim all the same", x.now(5), 0b1101);
        due.is("home is stuck all the same", x.now(4), 0b0010);
        x.set(2, 1);
        due.is("all open when it snapped", x.now(7), 0);
        due.is("snapped", x.now(3), 1);
    }
}
