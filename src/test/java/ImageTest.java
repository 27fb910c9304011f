/** Promises 38 to 42: images, counts and findings. */
public final class ImageTest {
    private static final Due due = new Due();

    public static void main(String[] args) {
        undoBringsAllBack();
        tapeAndSheetsStay();
        latestImageStays();
        tear();
        counts();
        status();
        everyFindingIsCounted();
        due.end();
    }

    private static void undoBringsAllBack() {
        LacedHouse x = Due.told("guest at 3 size 5 to 9;cook at 2;cell 4 9;measure 2 19;cord 77");
        x.change(1, 4, 6);
        x.change(1, 5, 1);
        x.set(1, 11);
        x.seed(12345);
        x.hold(3, 1);
        x.go(1);
        due.is("image", x.image(), 1);
        int strain = x.now(2);
        x.party(5);
        x.set(0, 3);
        x.set(1, 4);
        x.set(2, 1);
        x.cell(4, 30);
        x.measure(2, 30);
        x.guest(Due.MAID, 5);
        x.hold(3, 2);
        x.hold(7, 0);
        for (int what = 0; what < 6; what++) {
            x.change(0, what, 1);
            x.change(1, what, 1);
        }
        due.is("undo answers the hour", x.undo(), 1);
        due.is("strain", x.now(2), strain);
        due.is("snapped", x.now(3), 0);
        due.is("cord", x.set(0, 77), 77);
        due.is("cell", x.cell(4, 9), 9);
        due.is("measure", x.listed(2), 19);
        due.is("guests", x.count(1), 2);
        due.is("z", x.count(6), 12345);
        due.is("spot 3", x.as(3, 0), 1);
        due.is("spot 7", x.as(7, 0), Due.MISSING);
        int[][] want = {{0, 5, 5, 9, 0, 0}, {1, 2, 10, 2, 6, 1}};
        for (int g = 0; g < 2; g++) {
            for (int what = 0; what < 6; what++) {
                due.is("guest " + g + " what " + what, x.of(g, what), want[g][what]);
            }
        }
    }

    private static void tapeAndSheetsStay() {
        LacedHouse x = new LacedHouse();
        x.feed('d', 1);
        Due.tell(x, 0, 8, 5);
        x.image();
        x.feed('o', 1);
        x.feed('g', 1);
        Due.tell(x, 0, 8, 6, 7);
        Due.tell(x, 1, 16, 3);
        x.undo();
        due.is("the tape has 3", x.count(5), 3);
        due.is("sheet 1 is there", x.load(1), 1);
        due.is("sheet 0 has two", x.load(0), 2);
        due.is("6", x.cell(0, 20), 6);
        due.is("text", x.text(), 1);
        x.undo();
        due.is("the tape is empty still", x.count(5), 0);
        due.is("the dog is gone", x.count(1), 0);
    }

    private static void latestImageStays() {
        LacedHouse x = new LacedHouse();
        x.go(1);
        x.image();
        x.go(1);
        due.is("the latest", x.image(), 1);
        x.go(1);
        due.is("undo", x.undo(), 2);
        x.go(9);
        due.is("undo again", x.undo(), 2);
        due.is("and again", x.undo(), 2);
        x.cell(0, 3);
        x.go(1);
        x.undo();
        due.is("what is changed behind undo isn't kept", x.cell(0, 20), 20);
    }

    private static void tear() {
        LacedHouse x = new LacedHouse();
        due.is("nothing is kept", x.undo(), Due.NONE);
        due.is("tear nothing", x.tear(), 0);
        x.image();
        due.is("tear", x.tear(), 1);
        due.is("tear again", x.tear(), 0);
        x.go(1);
        due.is("nothing is kept now", x.undo(), Due.NONE);
        due.is("nothing changed", x.now(0), 1);
        x.image();
        due.is("kept anew", x.undo(), 1);
    }

    private static void counts() {
        LacedHouse x = Due.told("guest;dog;maid at 4");
        x.change(0, 5, 1);
        x.change(2, 5, 1);
        x.hold(2, 0);
        x.hold(5, 0);
        x.hold(6, 1);
        x.seed(-1000003);
        x.feed(0, 3);
        x.set(0, 5);
        x.go(4);
        int[] want = {4, 3, 12, 1, 2, 3, -1000003, 3};
        for (int what = 0; what < want.length; what++) {
            due.is("count " + what, x.count(what), want[what]);
        }
        due.is("count -1", x.count(-1), Due.BEYOND);
        due.is("count 8", x.count(8), Due.BEYOND);
        due.is("a z like a finding is none", x.status(-1), 2);
    }

    private static void status() {
        LacedHouse x = new LacedHouse();
        for (int which = -1; which < 7; which++) {
            due.is("none at first: " + which, x.status(which), 0);
        }
        due.is("no status -2", x.status(-2), Due.BEYOND);
        due.is("counted from then on", x.status(0), 1);
        due.is("no status 7", x.status(7), Due.BEYOND);
        due.is("two", x.status(-1), 2);
        x.image();
        x.set(5, 5);
        x.undo();
        due.is("undo takes none back", x.status(0), 3);
        x.text();
        due.is("a fault is no finding", x.status(-1), 3);
    }

    private static void everyFindingIsCounted() {
        LacedHouse x = Due.told("dog;dog;dog;dog;dog;dog;dog;dog");
        x.listed(9);
        x.guest(0, 0);
        x.guest(0, 0);
        x.hold(0, 0);
        x.as(0, 1);
        x.undo();
        x.tight(0, 99);
        x.load(0);
        x.load(1);
        x.load(2);
        x.sheet(0, 8, -1);
        int[] want = {2, 2, 1, 1, 0, 3, 1};
        int all = 0;
        for (int which = 0; which < want.length; which++) {
            due.is("status " + which, x.status(which), want[which]);
            all += want[which];
        }
        due.is("all", x.status(-1), all);
    }
}
