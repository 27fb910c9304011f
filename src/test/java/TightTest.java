/** Promises 18 to 22: how tight, as what, whom to send home. */
public final class TightTest {
    private static final Due due = new Due();

    public static void main(String[] args) {
        tight();
        measureFor();
        kindFor();
        sizeFor();
        send();
        nothingChanges();
        due.end();
    }

    private static void tight() {
        LacedHouse x = new LacedHouse();
        due.is("no hours", x.tight(0, 0), 16);
        due.is("a place that is not come to", x.tight(5, 5), 16);
        due.is("for 20 hours any would do, with 200", x.tight(5, 6), 16);
        x.set(0, 65);
        due.is("6 hours: 50 and 36 - m", x.tight(2, 6), 21);
        due.is("7 hours: 60 and 36 - m", x.tight(2, 7), 31);
        due.is("8 hours: 70", x.tight(2, 8), Due.NONE);
        x.set(0, 60);
        due.is("as much as the cord is safe", x.tight(2, 7), 36);
        x.set(0, 59);
        due.is("not one less", x.tight(2, 7), Due.NONE);
        x.set(0, 999);
        due.is("60 hours", x.tight(3, 60), 16);
        due.is("no 61 hours", x.tight(3, 61), Due.BEYOND);
        due.is("no -1 hours", x.tight(3, -1), Due.BEYOND);
        due.is("no place 6", x.tight(6, 1), Due.BEYOND);
        due.is("no place -1", x.tight(-1, 1), Due.BEYOND);
        x.set(2, 1);
        due.is("snapped already", x.tight(0, 0), Due.NONE);
        // A guest with 50 laughs an hour gets out of the hall at a measure of 29 or more.
        LacedHouse y = Due.told("explorer size 13 to 5;cord 40");
        due.is("width helps, too", y.tight(0, 1), 29);
        // A wide measure lets a laugher in, so the least that holds is tight.
        LacedHouse z = Due.told("explorer at 1 to 0;cord 25");
        due.is("tight keeps him out", z.tight(0, 1), 16);
        z.set(0, 15);
        due.is("he comes in at 26", z.tight(0, 1), 21);
    }

    private static void measureFor() {
        LacedHouse x = Due.told("guest at 5;cell 7 15;cell 2 0;cell 1 1;cell 9 22");
        due.is("where it is", x.measureFor(0, 5), 16);
        due.is("the next one", x.measureFor(0, 6), 16);
        due.is("through 15", x.measureFor(0, 7), 21);
        due.is("behind it", x.measureFor(0, 15), 21);
        due.is("through 0", x.measureFor(0, 2), 36);
        due.is("behind 0", x.measureFor(0, 0), 36);
        x.change(0, 2, 11);
        due.is("never through 0", x.measureFor(0, 0), Due.NONE);
        due.is("its own even so", x.measureFor(0, 5), 16);
        due.is("no cell 16", x.measureFor(0, 16), Due.BEYOND);
        due.is("no cell -1", x.measureFor(0, -1), Due.BEYOND);
        due.is("no guest 1", x.measureFor(1, 0), Due.BEYOND);
        due.is("no guest -1", x.measureFor(-1, 0), Due.BEYOND);
        x.set(2, 1);
        due.is("snapped or not", x.measureFor(0, 7), 22);
    }

    private static void kindFor() {
        LacedHouse x = Due.told("explorer;cord 999");
        x.set(1, 100);
        due.is("no hours: all alike", x.kindFor(0, 0), Due.GUEST);
        due.is("a nurse laces most", x.kindFor(0, 5), Due.NURSE);
        LacedHouse y = Due.told("guest at 3;measure 0 36");
        due.is("0 is least: the least number", y.kindFor(0, 1), Due.GUEST);
        y.change(0, 1, 0);
        y.change(0, 3, 0);
        due.is("a maid does not laugh", y.kindFor(0, 1), Due.MAID);
        y.set(2, 1);
        due.is("snapped: all alike", y.kindFor(0, 60), Due.GUEST);
        // Snapped at once the strain stays at 63; the others strain on and on.
        LacedHouse z = Due.told("guest;cord 40;measure 0 23");
        due.is("which snaps soonest may be least", z.kindFor(0, 60), bestKindByHand(60));
        x.set(1, 9999);
        x.set(2, 1);
        due.is("the greatest strain", x.kindFor(0, 60), Due.GUEST);
        due.is("no 61 hours", x.kindFor(0, 61), Due.BEYOND);
        due.is("no -1 hours", x.kindFor(0, -1), Due.BEYOND);
        due.is("no guest 1", x.kindFor(1, 0), Due.BEYOND);
        due.is("no guest -1", x.kindFor(-1, 0), Due.BEYOND);
    }

    private static int bestKindByHand(int n) {
        int best = -1;
        int least = 0;
        for (int kind = 0; kind < 7; kind++) {
            LacedHouse x = Due.told("guest;cord 40;measure 0 23");
            x.change(0, 0, kind);
            int strain = x.go(n);
            if (best < 0 || strain < least) {
                best = kind;
                least = strain;
            }
        }
        return best;
    }

    private static void sizeFor() {
        LacedHouse x = Due.told("guest to 6;cell 4 13;cord 999");
        due.is("too few hours", x.sizeFor(0, 2), Due.NONE);
        due.is("through 13", x.sizeFor(0, 3), 13);
        x.change(0, 3, 0);
        due.is("is there", x.sizeFor(0, 0), 40);
        x.change(0, 3, 1);
        due.is("behind no hours it isn't", x.sizeFor(0, 0), Due.NONE);
        due.is("20", x.sizeFor(0, 1), 20);
        x.change(0, 0, Due.BOY);
        due.is("a boy of 40", x.sizeFor(0, 1), 40);
        x.change(0, 0, Due.COOK);
        due.is("a cook of 16", x.sizeFor(0, 1), 16);
        due.is("with butter of 24", x.sizeFor(0, 4), 24);
        due.is("60 hours", x.sizeFor(0, 60), 24);
        due.is("no 61 hours", x.sizeFor(0, 61), Due.BEYOND);
        due.is("no -1 hours", x.sizeFor(0, -1), Due.BEYOND);
        due.is("no guest 1", x.sizeFor(1, 0), Due.BEYOND);
        due.is("no guest -1", x.sizeFor(-1, 0), Due.BEYOND);
        due.is("its size stays", x.of(0, 2), 10);
        LacedHouse y = Due.told("guest to 1;cell 1 1");
        due.is("1 is a size, too", y.sizeFor(0, 1), 1);
        y.cell(1, 0);
        due.is("0 is none", y.sizeFor(0, 1), Due.NONE);
    }

    private static void send() {
        LacedHouse x = Due.told("guest;explorer;cook;explorer;maid;cord 50");
        due.is("no hours", x.send(0), 0);
        // An hour: 10 + 3 + 50 + 5 + 50 - 4 = 114.
        due.is("both explorers", x.send(1), 0b1010);
        x.set(0, 64);
        due.is("one of them, the least", x.send(1), 0b0010);
        x.change(1, 5, 1);
        due.is("he is home already", x.send(1), 0);
        x.set(0, 63);
        due.is("the other one, too: the least of one", x.send(1), 0b0001);
        x.set(0, 1);
        due.is("even all don't help", x.send(1), Due.NONE);
        x.set(0, 999);
        x.set(2, 1);
        due.is("snapped already", x.send(0), Due.NONE);
        LacedHouse y = Due.told("explorer;guest;guest;guest;guest;guest;guest;guest;cord 12");
        due.is("all but one", y.send(1), 0xff);
        due.is("20 hours may be asked", y.send(20), Due.NONE);
        due.is("no 21 hours", y.send(21), Due.BEYOND);
        due.is("no -1 hours", y.send(-1), Due.BEYOND);
        LacedHouse z = new LacedHouse();
        z.set(0, 9);
        due.is("nobody to send", z.send(1), Due.NONE);
        due.is("none is needed", z.send(0), 0);
        // Two guests do as much as one dog and one cook, but one explorer is fewer, though greater.
        LacedHouse w = Due.told("guest;guest;cook;explorer;cord 30");
        due.is("the fewest, not the least", w.send(1), 0b1000);
    }

    private static void nothingChanges() {
        LacedHouse x = Due.told("guest to 6;explorer;cord 60;measure 2 20");
        x.tight(2, 9);
        x.measureFor(0, 5);
        x.kindFor(0, 9);
        x.sizeFor(0, 9);
        x.send(9);
        due.is("hour", x.now(0), 0);
        due.is("strain", x.now(2), 0);
        due.is("snapped", x.now(3), 0);
        due.is("list", x.listed(2), 20);
        due.is("kind", x.of(0, 0), Due.GUEST);
        due.is("size", x.of(0, 2), 10);
        due.is("nobody was sent", x.count(4), 0);
    }
}
