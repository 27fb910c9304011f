/** The edges of promises 18 to 22: the least and the greatest answers, NONE behind them, and the fewest and most HOURS. */
public final class TightEdgesTest {
    private static final int MIN = Integer.MIN_VALUE;
    private static final int MAX = Integer.MAX_VALUE;

    private static final Due due = new Due();
    private static final Acts lived = new Acts(due, Acts::lived);
    private static final Acts empty = new Acts(due, LacedHouse::new);
    private static final Acts eightDogs = new Acts(due, () -> Acts.dogs(8));
    private static final Acts cook = new Acts(due, Acts::cookOnButter);

    public static void main(String[] args) {
        tight();
        tightRefused();
        tightAnswers();
        measureFor();
        measureForRefused();
        kindFor();
        kindForTies();
        sizeFor();
        sizeForAnswers();
        send();
        sendAnswers();
        due.end();
    }

    private static LacedHouse withCord(LacedHouse x, int cord) {
        x.set(0, cord);
        return x;
    }

    private static Acts cords(int cord) {
        return new Acts(due, () -> withCord(new LacedHouse(), cord));
    }

    private static Acts gone() {
        return new Acts(due, () -> {
            LacedHouse x = Acts.lived();
            x.set(2, 1);
            return x;
        });
    }

    private static void tight() {
        empty.taken("18: 0 HOURS, place 0", x -> x.tight(0, 0), 16);
        empty.taken("18: 0 HOURS, place 5", x -> x.tight(5, 0), 16);
        // 50 hours of 10, and ten (of 59 hours nine of place 5) of 36 less m.
        cords(599).taken("18: 59 HOURS, place 0", x -> x.tight(0, 59), 26);
        cords(599).taken("18: 60 HOURS, place 0", x -> x.tight(0, 60), 27);
        cords(599).taken("18: 59 HOURS, place 5", x -> x.tight(5, 59), 25);
        cords(599).taken("18: 60 HOURS, place 5", x -> x.tight(5, 60), 27);
        cords(9).refused("18: 1 HOUR, but another place", x -> x.tight(1, 1), Due.NONE);
        cords(10).taken("18: 1 HOUR, and another place", x -> x.tight(1, 1), 16);
    }

    private static void tightRefused() {
        int[][] refused = {{-1, 0}, {6, 0}, {-1, 60}, {6, 60}, {0, -1}, {0, 61}, {5, -1}, {5, 61}, {MIN, 0}, {MAX, 0}, {0, MIN},
            {0, MAX}};
        for (int[] r : refused) {
            lived.refused("18: tight " + r[0] + " " + r[1], x -> x.tight(r[0], r[1]), Due.BEYOND);
        }
        gone().refused("18: SNAPPED already, 0 HOURS", x -> x.tight(0, 0), Due.NONE);
        gone().refused("18: SNAPPED already, 60 HOURS", x -> x.tight(5, 60), Due.NONE);
        gone().refused("18: BEYOND is asked ahead of NONE", x -> x.tight(6, 0), Due.BEYOND);
    }

    private static void tightAnswers() {
        int[][] rows = {{20, 16}, {19, 17}, {18, 18}, {10, 26}, {1, 35}, {0, 36}};
        for (int[] r : rows) {
            cords(r[0]).taken("18: CORD " + r[0], x -> x.tight(0, 1), r[1]);
        }
        Acts one = new Acts(due, () -> {
            LacedHouse x = withCord(new LacedHouse(), 0);
            x.set(1, 1);
            return x;
        });
        one.taken("18: STRAIN above CORD does not snap before an HOUR", x -> x.tight(0, 0), 16);
        one.refused("18: 36 is too tight", x -> x.tight(0, 1), Due.NONE);
        LacedHouse y = withCord(new LacedHouse(), 20);
        y.go(1);
        due.is("18: the place of this HOUR", y.tight(1, 1), 26);
        due.is("18: a place that comes later", y.tight(0, 1), 16);
    }

    private static void measureFor() {
        lived.taken("19: where it is", x -> x.measureFor(0, 3), 16);
        lived.taken("19: down to 0", x -> x.measureFor(0, 0), 18);
        lived.taken("19: through CELL 4", x -> x.measureFor(0, 15), 29);
        // A guest of 30 needs 30: a base of 20 is so wide at 36, one of 40 at 16.
        int[][] rows = {{40, 16}, {39, 17}, {31, 25}, {30, 26}, {21, 35}, {20, 36}, {19, Due.NONE}, {0, Due.NONE}};
        for (int[] r : rows) {
            LacedHouse y = Due.told("guest at 3 size 30;guest at 5 size 30");
            y.cell(4, r[0]);
            due.is("19: up, through BASE " + r[0], y.measureFor(0, 4), r[1]);
            due.is("19: down, through BASE " + r[0], y.measureFor(1, 4), r[1]);
        }
        Acts wide = new Acts(due, () -> Due.told("guest size 31;guest at 15 size 31"));
        wide.refused("19: nowhere but where it is", x -> x.measureFor(0, 1), Due.NONE);
        wide.refused("19: nor to the other end", x -> x.measureFor(0, 15), Due.NONE);
        wide.refused("19: nor back", x -> x.measureFor(1, 0), Due.NONE);
        wide.taken("19: AT 15, it is there", x -> x.measureFor(1, 15), 16);
        LacedHouse z = Due.told("boy size 1");
        for (int c = 0; c < 16; c++) {
            z.cell(c, 0);
        }
        due.is("19: one that NEEDS 0", z.measureFor(0, 15), 16);
    }

    private static void measureForRefused() {
        int[][] refused = {{-1, 0}, {3, 0}, {0, -1}, {0, 16}, {-1, 15}, {3, 15}, {2, -1}, {2, 16}, {MIN, 0}, {MAX, 0}, {0, MIN},
            {0, MAX}};
        for (int[] r : refused) {
            lived.refused("19: measureFor " + r[0] + " " + r[1], x -> x.measureFor(r[0], r[1]), Due.BEYOND);
        }
        empty.refused("19: nobody is there", x -> x.measureFor(0, 0), Due.BEYOND);
        eightDogs.taken("19: the eighth one", x -> x.measureFor(7, 7), 16);
        eightDogs.refused("19: no ninth one", x -> x.measureFor(8, 0), Due.BEYOND);
    }

    private static void kindFor() {
        // As a cook she is in the hall behind 60 hours, and no sooner; a maid does not laugh.
        cook.taken("20: 0 HOURS", x -> x.kindFor(0, 0), Due.GUEST);
        cook.taken("20: 7 HOURS", x -> x.kindFor(0, 7), Due.GUEST);
        cook.taken("20: 8 HOURS, a guest is in the hall", x -> x.kindFor(0, 8), Due.COOK);
        cook.taken("20: 59 HOURS", x -> x.kindFor(0, 59), Due.COOK);
        cook.taken("20: 60 HOURS", x -> x.kindFor(0, 60), Due.MAID);
        int[][] refused = {{-1, 0}, {3, 0}, {0, -1}, {0, 61}, {2, -1}, {2, 61}, {MIN, 0}, {MAX, 0}, {0, MIN}, {0, MAX}};
        for (int[] r : refused) {
            lived.refused("20: kindFor " + r[0] + " " + r[1], x -> x.kindFor(r[0], r[1]), Due.BEYOND);
        }
        empty.refused("20: nobody is there", x -> x.kindFor(0, 0), Due.BEYOND);
        eightDogs.taken("20: the eighth one", x -> x.kindFor(7, 1), Due.NURSE);
        eightDogs.refused("20: no ninth one", x -> x.kindFor(8, 1), Due.BEYOND);
    }

    private static void kindForTies() {
        lived.taken("20: one HOME: of all that are alike the least number", x -> x.kindFor(2, 60), Due.GUEST);
        gone().taken("20: SNAPPED: likewise", x -> x.kindFor(0, 60), Due.GUEST);
        LacedHouse x = Acts.laced(36);
        x.guest(Due.EXPLORER, 0);
        x.set(1, 4);
        due.is("20: 4 less 4 is 0, 4 less 7 too: the maid", x.kindFor(0, 1), Due.MAID);
        x.set(1, 5);
        due.is("20: 5 less 4 is 1, 5 less 7 is 0: the nurse", x.kindFor(0, 1), Due.NURSE);
        x.set(1, 9999);
        due.is("20: from 9999 on", x.kindFor(0, 1), Due.NURSE);
        LacedHouse y = Acts.laced(16);
        y.guest(Due.NURSE, 0);
        y.set(1, 9999);
        due.is("20: 9999 with any", y.kindFor(0, 1), Due.GUEST);
        LacedHouse z = withCord(Acts.laced(36), 44);
        z.guest(Due.MAID, 0);
        due.is("20: which does not strain at all", z.kindFor(0, 60), Due.MAID);
        due.is("20: KIND stays", z.of(0, 0), Due.MAID);
    }

    private static void sizeFor() {
        cook.taken("21: 59 HOURS: without butter", x -> x.sizeFor(0, 59), 16);
        cook.taken("21: 60 HOURS: with it", x -> x.sizeFor(0, 60), 24);
        cook.taken("21: 15 HOURS", x -> x.sizeFor(0, 15), 16);
        cook.refused("21: 14 HOURS", x -> x.sizeFor(0, 14), Due.NONE);
        cook.refused("21: 0 HOURS", x -> x.sizeFor(0, 0), Due.NONE);
        lived.taken("21: 0 HOURS AT its AIM", x -> x.sizeFor(1, 0), 40);
        lived.taken("21: 60 HOURS AT its AIM", x -> x.sizeFor(1, 60), 40);
        lived.refused("21: one HOME never comes", x -> x.sizeFor(2, 60), Due.NONE);
        int[][] refused = {{-1, 0}, {3, 0}, {0, -1}, {0, 61}, {2, -1}, {2, 61}, {MIN, 0}, {MAX, 0}, {0, MIN}, {0, MAX}};
        for (int[] r : refused) {
            lived.refused("21: sizeFor " + r[0] + " " + r[1], x -> x.sizeFor(r[0], r[1]), Due.BEYOND);
        }
        empty.refused("21: nobody is there", x -> x.sizeFor(0, 0), Due.BEYOND);
        eightDogs.taken("21: the eighth one", x -> x.sizeFor(7, 0), 40);
        eightDogs.refused("21: no ninth one", x -> x.sizeFor(8, 0), Due.BEYOND);
    }

    private static void sizeForAnswers() {
        int[][] rows = {{0, Due.NONE}, {1, 1}, {2, 2}, {39, 39}, {40, 40}};
        for (int[] r : rows) {
            LacedHouse x = Due.told("guest at 3 to 4");
            x.cell(4, r[0]);
            due.is("21: through BASE " + r[0], x.sizeFor(0, 1), r[1]);
            due.is("21: SIZE stays", x.of(0, 2), 10);
        }
        LacedHouse y = Due.told("guest at 3 to 4;measure 0 36;cell 4 40");
        due.is("21: 50 WIDE, but 40 is the greatest", y.sizeFor(0, 1), 40);
        LacedHouse z = Due.told("boy at 3 to 4;cell 4 0");
        due.is("21: a boy of 1 NEEDS 0", z.sizeFor(0, 1), 1);
        LacedHouse d = Due.told("dog at 3 to 4;cell 4 4");
        due.is("21: a dog of any SIZE", d.sizeFor(0, 1), 40);
        d.cell(4, 3);
        due.is("21: or of none", d.sizeFor(0, 1), Due.NONE);
    }

    private static void send() {
        cords(190).taken("22: 19 HOURS", x -> x.send(19), 0);
        cords(190).refused("22: 20 HOURS, and nobody to send", x -> x.send(20), Due.NONE);
        cords(200).taken("22: 20 HOURS", x -> x.send(20), 0);
        cords(0).taken("22: 0 HOURS", x -> x.send(0), 0);
        for (int n : new int[] {-1, 21, MIN, MAX}) {
            lived.refused("22: send " + n, x -> x.send(n), Due.BEYOND);
        }
        gone().refused("22: SNAPPED already", x -> x.send(0), Due.NONE);
        gone().refused("22: SNAPPED already, 20 HOURS", x -> x.send(20), Due.NONE);
        gone().refused("22: BEYOND is asked ahead of NONE", x -> x.send(21), Due.BEYOND);
    }

    private static LacedHouse eightGuests(int cord) {
        LacedHouse x = withCord(new LacedHouse(), cord);
        for (int g = 0; g < 8; g++) {
            x.guest(Due.GUEST, 0);
        }
        return x;
    }

    private static void sendAnswers() {
        // 10, and 3 for each of eight that stays: k sent leave 34 less 3 times k.
        int[][] rows = {{34, 0}, {33, 0b1}, {31, 0b1}, {30, 0b11}, {13, 0x7f}, {12, 0xff}, {10, 0xff}};
        for (int[] r : rows) {
            new Acts(due, () -> eightGuests(r[0])).taken("22: CORD " + r[0], x -> x.send(1), r[1]);
        }
        new Acts(due, () -> eightGuests(9)).refused("22: all eight are too few", x -> x.send(1), Due.NONE);
        LacedHouse y = eightGuests(34 + 47);
        y.change(7, 0, Due.EXPLORER);
        due.is("22: none", y.send(1), 0);
        y.set(0, 34 + 46);
        due.is("22: the least of those of one", y.send(1), 1);
        y.set(0, 34 + 41);
        due.is("22: one, though two would be a lesser number", y.send(1), 0x80);
        y.set(0, 34);
        due.is("22: the last one alone", y.send(1), 0x80);
        y.set(0, 30);
        due.is("22: and the least one", y.send(1), 0x81);
        y.change(0, 5, 1);
        due.is("22: one HOME is not sent again", y.send(1), 0x80);
        y.change(7, 5, 1);
        due.is("22: with both HOME none is sent", y.send(1), 0);
        due.is("22: nobody was sent", y.count(4), 2);
        // A nurse who laces must not be sent, though she has the least number.
        LacedHouse z = Due.told("nurse;guest;guest;cord 7");
        due.is("22: not the nurse", z.send(1), 0b010);
    }
}
