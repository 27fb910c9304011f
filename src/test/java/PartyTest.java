/** Promises 25 to 27: parties, odds and draws. */
public final class PartyTest {
    private static final Due due = new Due();

    public static void main(String[] args) {
        party();
        partyAims();
        odds();
        seed();
        due.end();
    }

    private static int next(int z) {
        return z * 1103515245 + 12345;
    }

    private static void party() {
        LacedHouse x = new LacedHouse();
        due.is("no -1 hours", x.party(-1), Due.BEYOND);
        due.is("no 0 hours", x.party(0), Due.BEYOND);
        due.is("no 21 hours", x.party(21), Due.BEYOND);
        due.is("z stays", x.count(6), 1);
        int first = next(1);
        int second = next(first);
        int m = 16 + (first >>> 8) % 21;
        due.is("strain behind an hour", x.party(1), 36 - m);
        due.is("the list tells it", x.listed(0), m);
        due.is("the next place stays", x.listed(1), 26);
        due.is("two draws", x.count(6), second);
        due.is("an hour", x.count(0), 1);
        LacedHouse y = new LacedHouse();
        y.set(0, 999);
        y.seed(-77);
        int z = -77;
        int strain = 0;
        int[] list = new int[6];
        for (int i = 0; i < 20; i++) {
            z = next(z);
            list[i % 6] = 16 + (z >>> 8) % 21;
            strain += 36 - list[i % 6];
            z = next(z);
        }
        due.is("20 hours", y.party(20), strain);
        due.is("40 draws", y.count(6), z);
        due.is("hour 20", y.now(0), 20);
        for (int i = 0; i < 6; i++) {
            due.is("list " + i, y.listed(i), list[i]);
        }
        LacedHouse s = new LacedHouse();
        s.set(2, 1);
        due.is("snapped: no strain", s.party(2), 0);
        due.is("the list is told all the same", s.listed(0), m);
    }

    private static void partyAims() {
        LacedHouse x = Due.told("dog;dog at 3 to 15;dog at 5;dog at 6 to 9;dog at 15");
        int[] aims = {0, 15, 5, 9, 15};
        int z = 1;
        for (int i = 0; i < 40; i++) {
            z = next(next(z));
            int g = (z >>> 8) % 8;
            if (g < 5) {
                aims[g] = (aims[g] + 1) % 16;
            }
            x.party(1);
            for (int k = 0; k < 5; k++) {
                due.is("aim of " + k + " behind party " + i, x.of(k, 3), aims[k]);
            }
        }
        // The seed is sought so that guest 0 aims anew in the first hour and goes there at once.
        int seed = 0;
        while ((next(next(seed)) >>> 8) % 8 != 0) {
            seed++;
        }
        LacedHouse y = Due.told("boy at 4 size 10");
        y.seed(seed);
        y.party(1);
        due.is("aims first, then goes", y.of(0, 1), 5);
        LacedHouse h = Due.told("boy at 4");
        h.change(0, 5, 1);
        h.seed(seed);
        h.party(1);
        due.is("one that is home aims, too", h.of(0, 3), 5);
        due.is("but stays", h.of(0, 1), 4);
    }

    private static void odds() {
        LacedHouse x = Due.told("guest size 18 to 6");
        // 24 to 36 do: 13 of 21.
        due.is("13 above", x.odds(0, 1, 0), 13);
        due.is("21 below", x.odds(0, 1, 1), 21);
        due.is("169", x.odds(0, 2, 0), 169);
        due.is("441", x.odds(0, 2, 1), 441);
        due.is("none asked: 1", x.odds(0, 0, 0), 1);
        due.is("none asked: below 1", x.odds(0, 0, 1), 1);
        due.is("13 of 13", x.odds(0, 13, 0), 302875106592253L);
        due.is("21 of 13", x.odds(0, 13, 1), 154472377739119461L);
        x.change(0, 2, 19);
        due.is("12 of 21 is 4 of 7", x.odds(0, 3, 0), 64);
        due.is("343", x.odds(0, 3, 1), 343);
        x.change(0, 2, 17);
        due.is("14 of 21 is 2 of 3", x.odds(0, 3, 0), 8);
        due.is("27", x.odds(0, 3, 1), 27);
        x.change(0, 2, 31);
        due.is("never: 0", x.odds(0, 4, 0), 0);
        due.is("never: below 1", x.odds(0, 4, 1), 1);
        due.is("never, but none asked", x.odds(0, 0, 0), 1);
        x.change(0, 2, 10);
        due.is("always: 1", x.odds(0, 13, 0), 1);
        due.is("always: below 1", x.odds(0, 13, 1), 1);
        due.is("no guest 1", x.odds(1, 1, 0), Due.BEYOND);
        due.is("no guest -1", x.odds(-1, 1, 0), Due.BEYOND);
        due.is("no n -1", x.odds(0, -1, 0), Due.BEYOND);
        due.is("no n 14", x.odds(0, 14, 0), Due.BEYOND);
        due.is("no what -1", x.odds(0, 1, -1), Due.BEYOND);
        due.is("no what 2", x.odds(0, 1, 2), Due.BEYOND);
        due.is("counted", x.status(0), 6);
        due.is("no draws", x.count(6), 1);
    }

    private static void seed() {
        LacedHouse x = new LacedHouse();
        due.is("1 at first", x.seed(Integer.MIN_VALUE), 1);
        due.is("any", x.seed(Integer.MAX_VALUE), Integer.MIN_VALUE);
        due.is("any again", x.seed(-1000001), Integer.MAX_VALUE);
        due.is("a z that looks like a finding", x.seed(0), -1000001);
        due.is("is none", x.status(-1), 0);
        due.is("z", x.count(6), 0);
    }
}
