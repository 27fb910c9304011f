import java.math.BigInteger;

/** The edges of draws (Terms, 2) and of promises 25 to 27. */
public final class PartyEdgesTest {
    private static final int MIN = Integer.MIN_VALUE;
    private static final int MAX = Integer.MAX_VALUE;

    private static final Due due = new Due();
    private static final Acts lived = new Acts(due, Acts::lived);
    private static final Acts empty = new Acts(due, LacedHouse::new);
    private static final Acts eightDogs = new Acts(due, () -> Acts.dogs(8));

    public static void main(String[] args) {
        party();
        leastAndGreatestMeasure();
        firstAndLastGuest();
        aimsGoRound();
        theListsPlaceGoesRound();
        drawsWrapAround();
        partyOfOneThatSnaps();
        odds();
        oddsRefused();
        seed();
        due.end();
    }

    private static int next(int z) {
        return z * 1103515245 + 12345;
    }

    private static int drawn(int z) {
        return z >>> 8;
    }

    /** A seed whose first draw has the one rest by 21 and whose second one has the other by 8. */
    private static int seedFor(int measure, int guest) {
        for (int z = 0; z < 1000000; z++) {
            if (16 + drawn(next(z)) % 21 == measure && drawn(next(next(z))) % 8 == guest) {
                return z;
            }
        }
        throw new IllegalStateException("no such seed");
    }

    private static void party() {
        for (int n : new int[] {0, -1, 21, MIN, MAX}) {
            lived.refused("25: party " + n, x -> x.party(n), Due.BEYOND);
        }
        int z = next(1);
        int m = 16 + drawn(z) % 21;
        empty.taken("25: 1 HOUR", x -> x.party(1), 36 - m, "hour 0 > 1", "strain 0 > " + (36 - m), "list 0 26 > " + m,
            "z 1 > " + next(z));
        LacedHouse y = new LacedHouse();
        y.set(0, 999);
        int strain = 0;
        z = 1;
        for (int i = 0; i < 20; i++) {
            z = next(z);
            strain += 36 - (16 + drawn(z) % 21);
            z = next(z);
        }
        due.is("25: 20 HOURS", y.party(20), strain);
        due.is("25: HOUR 20", y.now(0), 20);
        due.is("25: 40 draws", y.count(6), z);
    }

    private static void leastAndGreatestMeasure() {
        for (int m = 16; m <= 36; m++) {
            LacedHouse x = new LacedHouse();
            x.seed(seedFor(m, 3));
            due.is("25: STRAIN behind an HOUR at " + m, x.party(1), 36 - m);
            due.is("25: THE LIST tells " + m, x.listed(0), m);
        }
    }

    private static void firstAndLastGuest() {
        for (int g = 0; g < 8; g++) {
            int seed = seedFor(36, g);
            LacedHouse x = Acts.dogs(8);
            x.seed(seed);
            x.party(1);
            for (int k = 0; k < 8; k++) {
                due.is("25: rest " + g + ", AIM of " + k, x.of(k, 3), k == g ? k + 1 : k);
                due.is("25: rest " + g + ", CELL of " + k, x.of(k, 1), k == g ? k + 1 : k);
            }
            LacedHouse y = Acts.dogs(g);
            y.seed(seed);
            y.party(1);
            for (int k = 0; k < g; k++) {
                due.is("25: rest " + g + " of " + g + ", nobody's: AIM of " + k, y.of(k, 3), k);
            }
            due.is("25: nobody came", y.count(1), g);
            LacedHouse z = Acts.dogs(g + 1);
            z.seed(seed);
            z.party(1);
            due.is("25: rest " + g + " of " + (g + 1) + ", the last one's", z.of(g, 3), g + 1);
        }
    }

    private static void aimsGoRound() {
        int seed = seedFor(16, 0);
        for (int aim = 0; aim < 16; aim++) {
            LacedHouse x = Acts.dogs(1);
            x.change(0, 1, 7);
            x.change(0, 3, aim);
            x.change(0, 5, 1);
            x.seed(seed);
            x.party(1);
            due.is("25: behind " + aim, x.of(0, 3), aim == 15 ? 0 : aim + 1);
            due.is("25: one HOME stays", x.of(0, 1), 7);
        }
        LacedHouse y = Acts.dogs(1);
        y.change(0, 1, 15);
        y.change(0, 3, 15);
        y.seed(seedFor(36, 0));
        y.party(1);
        due.is("25: from 15 it goes all the way down", y.of(0, 1), 10);
    }

    private static void theListsPlaceGoesRound() {
        for (int hour = 0; hour < 13; hour++) {
            LacedHouse x = new LacedHouse();
            if (hour > 0) {
                x.go(hour);
            }
            x.seed(seedFor(17, 0));
            x.party(1);
            for (int i = 0; i < 6; i++) {
                due.is("25: HOUR " + hour + ", place " + i, x.listed(i), i == hour % 6 ? 17 : 26);
            }
        }
    }

    private static void drawsWrapAround() {
        for (int seed : new int[] {0, -1, MIN, MAX, 1, 2147483600, -987654321, 305419896}) {
            // The document's numbers without Java's own wrap-around.
            BigInteger z = BigInteger.valueOf(seed);
            LacedHouse x = Acts.dogs(8);
            x.seed(seed);
            x.set(2, 1);
            for (int i = 0; i < 8; i++) {
                z = wrapped(z);
                int m = 16 + top(z).mod(BigInteger.valueOf(21)).intValue();
                z = wrapped(z);
                int g = top(z).mod(BigInteger.valueOf(8)).intValue();
                int aim = (x.of(g, 3) + 1) % 16;
                int place = x.now(0) % 6;
                x.party(1);
                due.is("z from " + seed + " behind " + (i + 1), x.count(6), z.intValue());
                due.is("a draw that is never below 0", x.listed(place), m);
                due.is("nor the second one", x.of(g, 3), aim);
            }
        }
    }

    private static BigInteger wrapped(BigInteger z) {
        return BigInteger.valueOf(z.multiply(BigInteger.valueOf(1103515245)).add(BigInteger.valueOf(12345)).intValue());
    }

    private static BigInteger top(BigInteger z) {
        return z.mod(BigInteger.ONE.shiftLeft(32)).shiftRight(8);
    }

    private static void partyOfOneThatSnaps() {
        LacedHouse x = new LacedHouse();
        x.seed(seedFor(16, 0));
        x.set(0, 19);
        due.is("25: it goes", x.party(1), 20);
        due.is("25: SNAPPED", x.now(3), 1);
        int listed = x.listed(1);
        int z = x.count(6);
        due.is("25: STRAIN stays", x.party(1), 20);
        due.is("25: THE LIST is told all the same", x.listed(1), 16 + drawn(next(z)) % 21);
        due.is("25: it was as at first", listed, 26);
        LacedHouse y = new LacedHouse();
        y.seed(seedFor(16, 0));
        y.set(0, 20);
        due.is("25: as much as CORD", y.party(1), 20);
        due.is("25: not SNAPPED", y.now(3), 0);
    }

    private static long power(long base, int n) {
        return BigInteger.valueOf(base).pow(n).longValueExact();
    }

    private static void odds() {
        for (int size = 9; size <= 32; size++) {
            int good = Math.max(0, Math.min(21, 31 - size));
            int common = BigInteger.valueOf(good).gcd(BigInteger.valueOf(21)).intValue();
            LacedHouse x = Due.told("guest at 3 to 9");
            x.change(0, 2, size);
            for (int n : new int[] {0, 1, 2, 12, 13}) {
                due.is("26: above, SIZE " + size + ", n " + n, x.odds(0, n, 0), power(good / common, n));
                due.is("26: below, SIZE " + size + ", n " + n, x.odds(0, n, 1), power(21 / common, n));
            }
        }
        LacedHouse y = Due.told("guest at 3 size 30 to 9");
        due.is("26: 1 above", y.odds(0, 13, 0), 1L);
        due.is("26: 21 to the 13th below", y.odds(0, 13, 1), 154472377739119461L);
        y.change(0, 2, 11);
        due.is("26: 20 to the 13th above", y.odds(0, 13, 0), 81920000000000000L);
        y.change(0, 3, 3);
        y.change(0, 2, 40);
        due.is("26: AT its AIM, always", y.odds(0, 13, 0), 1);
        due.is("26: AT its AIM, always: below", y.odds(0, 13, 1), 1);
        lived.taken("26: nothing changes", x -> x.odds(0, 1, 0), 8);
        lived.taken("26: no draw", x -> x.odds(0, 1, 1), 21);
        lived.taken("26: the last one, HOME or not", x -> x.odds(2, 13, 0), power(17, 13));
        lived.taken("26: the last one, below", x -> x.odds(2, 13, 1), power(21, 13));
    }

    private static void oddsRefused() {
        int[][] refused = {{-1, 0, 0}, {3, 0, 0}, {0, -1, 0}, {0, 14, 0}, {0, 0, -1}, {0, 0, 2}, {-1, 13, 1}, {3, 13, 1},
            {2, -1, 1}, {2, 14, 1}, {2, 13, -1}, {2, 13, 2}, {MIN, 0, 0}, {MAX, 0, 0}, {0, MIN, 0}, {0, MAX, 0}, {0, 0, MIN},
            {0, 0, MAX}};
        for (int[] r : refused) {
            lived.refused("26: odds " + r[0] + " " + r[1] + " " + r[2], x -> x.odds(r[0], r[1], r[2]), Due.BEYOND);
        }
        empty.refused("26: nobody is there", x -> x.odds(0, 0, 0), Due.BEYOND);
        eightDogs.taken("26: the eighth one", x -> x.odds(7, 13, 0), 1);
        eightDogs.refused("26: no ninth one", x -> x.odds(8, 0, 0), Due.BEYOND);
    }

    private static void seed() {
        for (int z : new int[] {0, 1, -1, MIN, MAX, Due.BEYOND, Due.SIZE, Due.SIZE - 1}) {
            lived.taken("27: z becomes " + z, x -> x.seed(z), -5, "z -5 > " + z);
            Acts was = new Acts(due, () -> {
                LacedHouse x = new LacedHouse();
                x.seed(z);
                return x;
            });
            was.taken("27: z was " + z + ", which is no finding", x -> x.seed(7), z, "z " + z + " > 7");
        }
    }
}
