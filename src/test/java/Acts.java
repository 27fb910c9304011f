import java.util.Arrays;
import java.util.List;
import java.util.function.Supplier;

/** Acts, each on a house that is made anew: what it answers, which findings are counted, and just what it changes. */
final class Acts {
    interface Act {
        long on(LacedHouse x);
    }

    private final Due due;
    private final Supplier<LacedHouse> house;
    private final Look was;

    Acts(Due due, Supplier<LacedHouse> house) {
        this.due = due;
        this.house = house;
        was = new Look(house);
    }

    /** An act that is taken: no finding, and these changes ("name was > is") alone. */
    void taken(String what, Act act, long answer, String... changes) {
        String[] sorted = changes.clone();
        Arrays.sort(sorted);
        check(what, act, answer, new int[7], sorted);
    }

    /** An act that answers a finding: it is counted once, and nothing else changes. */
    void refused(String what, Act act, int finding) {
        int[] counted = new int[7];
        counted[Due.BEYOND - finding] = 1;
        check(what, act, finding, counted);
    }

    private void check(String what, Act act, long answer, int[] counted, String... changes) {
        LacedHouse x = house.get();
        int[] before = findings(x);
        due.is(what, act.on(x), answer);
        int[] after = findings(x);
        int all = 0;
        for (int which = 0; which < 7; which++) {
            due.is(what + ": findings " + which + " more", after[which] - before[which], counted[which]);
            all += counted[which];
        }
        due.is(what + ": all findings more", after[7] - before[7], all);
        Look is = new Look(() -> {
            LacedHouse y = house.get();
            act.on(y);
            return y;
        });
        due.same(what + ": changes", was.changesTo(is), List.of(changes));
    }

    /** Findings 0 to 6, and all. */
    private static int[] findings(LacedHouse x) {
        int[] row = new int[8];
        for (int which = 0; which < 7; which++) {
            row[which] = x.status(which);
        }
        row[7] = x.status(-1);
        return row;
    }

    /** What changes when a guest comes, the next one by number. */
    static String[] newGuest(int g, int kind, int cell, int size, int aim) {
        String row = "guest " + g + " ";
        return new String[] {"guests " + g + " > " + (g + 1), row + "kind none > " + kind, row + "cell none > " + cell,
            row + "size none > " + size, row + "aim none > " + aim, row + "stuck none > 0", row + "home none > 0"};
    }

    /** A house in which much was changed, with an image of an earlier hour. */
    static LacedHouse lived() {
        LacedHouse x = Due.told("guest at 3 size 12 to 9;cook;boy at 14 size 7 to 1;cell 4 9;cell 15 33;"
            + "measure 2 19;measure 5 30;cord 300");
        x.change(1, 4, 5);
        x.change(2, 5, 1);
        x.set(1, 40);
        x.seed(777);
        x.hold(0, 1);
        x.image();
        x.hold(9, 2);
        // The guest is stuck before cell 4, the cook laughs in the hall, the boy is home.
        x.go(1);
        x.seed(-5);
        Due.tell(x, 0, 8, 3, -1, 14);
        Due.tell(x, 1, 16, 3, 0, 14, 41);
        x.sheet(2, 32, 0);
        Due.feed(x, "cord 77");
        return x;
    }

    /** A house with so many dogs, the first AT 0, the next AT 1, and so on. */
    static LacedHouse dogs(int many) {
        LacedHouse x = new LacedHouse();
        for (int g = 0; g < many; g++) {
            x.guest(Due.DOG, g);
        }
        return x;
    }

    /** A house in which THE LIST tells this measure in each place. */
    static LacedHouse laced(int m) {
        LacedHouse x = new LacedHouse();
        for (int i = 0; i < 6; i++) {
            x.measure(i, m);
        }
        return x;
    }

    /** A house, at 36 in each HOUR and with each CELL 20 WIDE then, through which a cook goes from 15 to 0 on butter alone:
     *  she is stuck for three HOURS before each CELL, and is AT 15 less k behind 4 times k HOURS, AT 0 behind 60. */
    static LacedHouse cookOnButter() {
        LacedHouse x = laced(36);
        for (int c = 0; c < 16; c++) {
            x.cell(c, 10);
        }
        x.guest(Due.COOK, 15);
        x.change(0, 2, 20);
        x.change(0, 3, 0);
        return x;
    }
}
