import java.util.Arrays;

/** A house of cells that narrow and widen by one measure, its guests, and the cord that strains. */
public final class LacedHouse {
    private static final int LOW = -1000001;
    private static final int BEYOND = 0;
    private static final int FULL = 1;
    private static final int KIND = 2;
    private static final int NONE = 3;
    private static final int STATE = 4;
    private static final int MISSING = 5;
    private static final int SIZE = 6;
    private static final int FINDINGS = 7;

    private static final int FAR = 200;

    private static final int[] GREATEST_SETTING = {999, 9999, 1};
    private static final int[] LEAST_TRAIT = {0, 0, 1, 0, 0, 0};
    private static final int[] GREATEST_TRAIT = {6, 15, 40, 15, 9999, 1};

    private final House house;
    private final House kept;
    // The one house in which all that only might be is tried, so that no call makes objects.
    private final House trial;
    private boolean isKept;
    private final Sheets sheets;
    private final Tape tape;
    private final int[] findings;

    public LacedHouse() {
        house = new House();
        kept = new House();
        trial = new House();
        isKept = false;
        sheets = new Sheets();
        tape = new Tape();
        findings = new int[FINDINGS];
    }

    // ---- house, guests

    public int set(int what, int v) {
        if (!within(what, 0, 2) || !within(v, 0, GREATEST_SETTING[what])) {
            return found(BEYOND);
        }
        int was;
        if (what == 0) {
            was = house.cord;
            house.cord = v;
        } else if (what == 1) {
            was = house.strain;
            house.strain = v;
        } else {
            was = house.snapped;
            house.snapped = v;
        }
        return was;
    }

    public int cell(int cell, int v) {
        if (!isCell(cell) || !within(v, 0, House.GREATEST_BASE)) {
            return found(BEYOND);
        }
        int was = house.bases[cell];
        house.bases[cell] = v;
        return was;
    }

    public int measure(int i, int v) {
        if (!isListed(i) || !isMeasure(v)) {
            return found(BEYOND);
        }
        int was = house.list[i];
        house.list[i] = v;
        return was;
    }

    public int listed(int i) {
        return isListed(i) ? house.list[i] : found(BEYOND);
    }

    public int wide(int cell, int m) {
        if (!isCell(cell) || !isMeasure(m)) {
            return found(BEYOND);
        }
        return house.width(cell, m);
    }

    public int guest(int kind, int cell) {
        if (!isKind(kind) || !isCell(cell)) {
            return found(BEYOND);
        }
        if (house.isFull()) {
            return found(FULL);
        }
        return house.add(kind, cell);
    }

    public int of(int guest, int what) {
        if (!isGuest(guest) || !within(what, 0, 9)) {
            return found(BEYOND);
        }
        switch (what) {
            case 6:
                return house.needs(guest);
            case 7:
                return Kinds.steps(house.kind[guest]);
            case 8:
                return Kinds.laughs(house.kind[guest], house.hour);
            case 9:
                return Kinds.laces(house.kind[guest]);
            default:
                return house.trait(what)[guest];
        }
    }

    public int change(int guest, int what, int v) {
        if (!isGuest(guest) || !within(what, 0, 5)
                || !within(v, LEAST_TRAIT[what], GREATEST_TRAIT[what])) {
            return found(BEYOND);
        }
        int[] trait = house.trait(what);
        int was = trait[guest];
        trait[guest] = v;
        return was;
    }

    public int reach(int guest, int m) {
        if (!isGuest(guest) || !isMeasure(m)) {
            return found(BEYOND);
        }
        return house.reachable(guest, m);
    }

    // ---- hours

    public int go(int n) {
        if (!within(n, 1, 60)) {
            return found(BEYOND);
        }
        if (house.hour + n > House.LAST_HOUR) {
            return found(STATE);
        }
        house.passHours(n);
        return house.strain;
    }

    public int now(int what) {
        switch (what) {
            case 0:
                return house.hour;
            case 1:
                return house.measureNow();
            case 2:
                return house.strain;
            case 3:
                return house.snapped;
            case 4:
                return house.thoseStuck();
            case 5:
                return house.thoseAtAim();
            case 6:
                return house.thoseInHall();
            case 7:
                return house.closedCells();
            default:
                return found(BEYOND);
        }
    }

    // ---- what will be (nothing changes)

    public int ahead(int guest, int what, int n) {
        if (!isGuest(guest) || !(what == 1 || what == 4 || what == 6) || !within(n, 0, 100)) {
            return found(BEYOND);
        }
        startTrial();
        trial.passHours(n);
        return what == 6 ? trial.needs(guest) : trial.trait(what)[guest];
    }

    public int strain(int n) {
        if (!within(n, 0, 100)) {
            return found(BEYOND);
        }
        startTrial();
        trial.passHours(n);
        return trial.strain;
    }

    public int snaps() {
        startTrial();
        for (int n = 0; n <= FAR; n++) {
            if (trial.snapped == 1) {
                return n;
            }
            trial.passHour();
        }
        return found(NONE);
    }

    public int comes(int guest, int cell) {
        if (!isGuest(guest) || !isCell(cell)) {
            return found(BEYOND);
        }
        startTrial();
        for (int n = 0; n <= FAR; n++) {
            if (trial.at[guest] == cell) {
                return n;
            }
            trial.passHour();
        }
        return found(NONE);
    }

    public int stuck(int guest, int v) {
        if (!isGuest(guest) || !within(v, 0, House.GREATEST_STUCK)) {
            return found(BEYOND);
        }
        startTrial();
        for (int n = 0; n <= FAR; n++) {
            if (trial.stuck[guest] >= v) {
                return n;
            }
            trial.passHour();
        }
        return found(NONE);
    }

    // ---- how tight

    public int tight(int i, int n) {
        if (!isListed(i) || !within(n, 0, 60)) {
            return found(BEYOND);
        }
        for (int m = House.LEAST_MEASURE; m <= House.GREATEST_MEASURE; m++) {
            startTrial();
            trial.list[i] = m;
            if (trial.holdsFor(n)) {
                return m;
            }
        }
        return found(NONE);
    }

    public int measureFor(int guest, int cell) {
        if (!isGuest(guest) || !isCell(cell)) {
            return found(BEYOND);
        }
        for (int m = House.LEAST_MEASURE; m <= House.GREATEST_MEASURE; m++) {
            if (house.canReach(guest, cell, m)) {
                return m;
            }
        }
        return found(NONE);
    }

    public int kindFor(int guest, int n) {
        if (!isGuest(guest) || !within(n, 0, 60)) {
            return found(BEYOND);
        }
        int best = 0;
        int least = House.GREATEST_STRAIN + 1;
        for (int kind = 0; kind < Kinds.COUNT; kind++) {
            startTrial();
            trial.kind[guest] = kind;
            trial.passHours(n);
            if (trial.strain < least) {
                least = trial.strain;
                best = kind;
            }
        }
        return best;
    }

    public int sizeFor(int guest, int n) {
        if (!isGuest(guest) || !within(n, 0, 60)) {
            return found(BEYOND);
        }
        for (int size = House.GREATEST_SIZE; size >= House.LEAST_SIZE; size--) {
            startTrial();
            trial.size[guest] = size;
            trial.passHours(n);
            if (trial.at[guest] == trial.aim[guest]) {
                return size;
            }
        }
        return found(NONE);
    }

    public int send(int n) {
        if (!within(n, 0, 20)) {
            return found(BEYOND);
        }
        int sets = 1 << house.count;
        for (int many = 0; many <= house.count; many++) {
            for (int set = 0; set < sets; set++) {
                if (Integer.bitCount(set) == many) {
                    startTrial();
                    trial.sendHome(set);
                    if (trial.holdsFor(n)) {
                        return set;
                    }
                }
            }
        }
        return found(NONE);
    }

    // ---- told places

    public int fits(int s, int guest) {
        int lack = lackOfTold(s, guest);
        if (lack >= 0) {
            return found(lack);
        }
        int many = 0;
        for (int m = House.LEAST_MEASURE; m <= House.GREATEST_MEASURE; m++) {
            startTrial();
            trial.list[trial.placeNow()] = m;
            if (trialGoesAsTold(s, guest)) {
                many++;
            }
        }
        return many;
    }

    public int kinds(int s, int guest) {
        int lack = lackOfTold(s, guest);
        if (lack >= 0) {
            return found(lack);
        }
        int set = 0;
        for (int kind = 0; kind < Kinds.COUNT; kind++) {
            startTrial();
            trial.kind[guest] = kind;
            if (trialGoesAsTold(s, guest)) {
                set |= 1 << kind;
            }
        }
        return set;
    }

    // ---- parties

    public int party(int n) {
        if (!within(n, 1, 20)) {
            return found(BEYOND);
        }
        if (house.hour + n > House.LAST_HOUR) {
            return found(STATE);
        }
        for (int i = 0; i < n; i++) {
            house.passPartyHour();
        }
        return house.strain;
    }

    public long odds(int guest, int n, int what) {
        if (!isGuest(guest) || !within(n, 0, 13) || !within(what, 0, 1)) {
            return found(BEYOND);
        }
        int good = house.measuresToAim(guest);
        int common = commonDivisor(good, House.MEASURES);
        int part = what == 0 ? good : House.MEASURES;
        int base = common > 0 ? part / common : part;
        long power = 1;
        for (int i = 0; i < n; i++) {
            power *= base;
        }
        return power;
    }

    public int seed(int v) {
        int was = house.z;
        house.z = v;
        return was;
    }

    // ---- texts

    public int feed(int bytes, int n) {
        if (!within(n, 1, 4)) {
            return found(BEYOND);
        }
        if (!tape.hasRoomFor(n)) {
            return found(FULL);
        }
        for (int i = n - 1; i >= 0; i--) {
            tape.add((bytes >>> (8 * i)) & 255);
        }
        return tape.length;
    }

    public int wipe() {
        int had = tape.length;
        tape.length = 0;
        return had;
    }

    public int text() {
        // Items are tried on a copy, as a fault behind them must leave all as it was.
        startTrial();
        int answer = tape.read(trial);
        if (answer >= 0) {
            house.become(trial);
        }
        tape.length = 0;
        return answer;
    }

    // ---- spots, sheets

    public int hold(int spot, int guest) {
        if (!isSpot(spot) || !(guest == House.NOBODY || isGuest(guest))) {
            return found(BEYOND);
        }
        house.spots[spot] = guest;
        return 1;
    }

    public int as(int spot, int kind) {
        if (!isSpot(spot) || !isKind(kind)) {
            return found(BEYOND);
        }
        int held = house.spots[spot];
        if (!isGuest(held)) {
            return found(MISSING);
        }
        if (!Kinds.isUnder(house.kind[held], kind)) {
            return found(KIND);
        }
        return held;
    }

    public int sheet(int s, int bits, int n) {
        if (!Sheets.isSheet(s) || !Sheets.areBits(bits)) {
            return found(BEYOND);
        }
        if (n < 0) {
            return found(SIZE);
        }
        if (n > Sheets.LONGEST) {
            return found(BEYOND);
        }
        return sheets.make(s, bits, n);
    }

    public int write(int s, int i, int v) {
        int lack = lackOfSheet(s);
        if (lack >= 0) {
            return found(lack);
        }
        if (!within(i, 0, sheets.length[s] - 1)) {
            return found(BEYOND);
        }
        sheets.put(s, i, v);
        return 1;
    }

    public int copy(int s, int from, int t, int to, int n) {
        if (!Sheets.isSheet(s) || !Sheets.isSheet(t)) {
            return found(BEYOND);
        }
        if (sheets.isMissing(s) || sheets.isMissing(t)) {
            return found(MISSING);
        }
        if (sheets.bits[s] != sheets.bits[t]) {
            return found(KIND);
        }
        if (!sheets.hasRange(s, from, n) || !sheets.hasRange(t, to, n)) {
            return found(BEYOND);
        }
        System.arraycopy(sheets.numbers[s], from, sheets.numbers[t], to, n);
        return n;
    }

    public int load(int s) {
        int lack = lackOfSheet(s);
        if (lack >= 0) {
            return found(lack);
        }
        int most = Math.min(sheets.length[s], House.CELLS);
        int came = 0;
        while (came < most && within(sheets.numbers[s][came], 0, House.GREATEST_BASE)) {
            house.bases[came] = sheets.numbers[s][came];
            came++;
        }
        return came;
    }

    public int judge(int s) {
        int lack = lackOfSheet(s);
        if (lack >= 0) {
            return found(lack);
        }
        for (int i = 0; i < sheets.length[s]; i++) {
            if (!isGuest(i) || house.at[i] != sheets.numbers[s][i]) {
                return 1 + i;
            }
        }
        return 0;
    }

    // ---- images

    public int image() {
        kept.become(house);
        isKept = true;
        return 1;
    }

    public int undo() {
        if (!isKept) {
            return found(NONE);
        }
        house.become(kept);
        return house.hour;
    }

    public int tear() {
        int was = isKept ? 1 : 0;
        isKept = false;
        return was;
    }

    public int count(int what) {
        switch (what) {
            case 0:
                return house.hour;
            case 1:
                return house.count;
            case 2:
                return house.strain;
            case 3:
                return house.snapped;
            case 4:
                return house.howManyHome();
            case 5:
                return tape.length;
            case 6:
                return house.z;
            case 7:
                return house.howManyHeld();
            default:
                return found(BEYOND);
        }
    }

    public int status(int which) {
        if (!within(which, -1, FINDINGS - 1)) {
            return found(BEYOND);
        }
        if (which >= 0) {
            return findings[which];
        }
        int all = 0;
        for (int i = 0; i < FINDINGS; i++) {
            all += findings[i];
        }
        return all;
    }

    // ---- what the acts share

    private int found(int finding) {
        if (within(finding, 0, FINDINGS - 1)) {
            findings[finding]++;
        }
        return LOW - finding;
    }

    private static boolean within(int v, int least, int greatest) {
        return v >= least && v <= greatest;
    }

    private static boolean isCell(int cell) {
        return within(cell, 0, House.CELLS - 1);
    }

    private static boolean isListed(int place) {
        return within(place, 0, House.PLACES - 1);
    }

    private static boolean isMeasure(int m) {
        return within(m, House.LEAST_MEASURE, House.GREATEST_MEASURE);
    }

    private static boolean isKind(int kind) {
        return within(kind, 0, Kinds.COUNT - 1);
    }

    private static boolean isSpot(int spot) {
        return within(spot, 0, House.SPOTS - 1);
    }

    private boolean isGuest(int guest) {
        return within(guest, 0, house.count - 1);
    }

    private void startTrial() {
        trial.become(house);
    }

    /** The finding that a sheet gives cause for, or -1. */
    private int lackOfSheet(int s) {
        if (!Sheets.isSheet(s)) {
            return BEYOND;
        }
        return sheets.isMissing(s) ? MISSING : -1;
    }

    /** The finding that a sheet of told places of a guest gives cause for, or -1. */
    private int lackOfTold(int s, int guest) {
        int lack = lackOfSheet(s);
        if (lack >= 0) {
            return lack;
        }
        return isGuest(guest) ? -1 : BEYOND;
    }

    private boolean trialGoesAsTold(int s, int guest) {
        for (int i = 0; i < sheets.length[s]; i++) {
            trial.passHour();
            int told = sheets.numbers[s][i];
            if (told != Sheets.ANY && told != trial.at[guest]) {
                return false;
            }
        }
        return true;
    }

    /** The greatest common divisor; a is not below 0, b is above 0, and so is the answer. */
    private static int commonDivisor(int a, int b) {
        int rest = a;
        int divisor = b;
        // Euclid's way ends in far fewer than 32 turns for numbers up to 21.
        for (int i = 0; i < 32 && rest != 0; i++) {
            int next = divisor % rest;
            divisor = rest;
            rest = next;
        }
        return divisor;
    }

    /** What guests of each kind need and do. */
    private static final class Kinds {
        static final int GUEST = 0;
        static final int COOK = 1;
        static final int BOY = 2;
        static final int MAID = 3;
        static final int NURSE = 4;
        static final int DOG = 5;
        static final int EXPLORER = 6;
        static final int COUNT = 7;

        // For each kind the one that it stands right under.
        private static final int[] ABOVE = {-1, 0, 0, 2, 3, 0, 1};

        static int needs(int kind, int size, int stuck, int hour) {
            int butter = stuck >= 3 ? 8 : 0;
            int asCook = Math.max(0, size + 4 - butter);
            switch (kind) {
                case COOK:
                    return asCook;
                case EXPLORER:
                    return asCook + 6;
                case BOY:
                    return size / 2;
                case MAID:
                    return size / 2 + 3;
                case NURSE:
                    return size / 2 + 3 + hour % 2;
                case DOG:
                    return 4;
                default:
                    return size;
            }
        }

        static int steps(int kind) {
            switch (kind) {
                case COOK:
                case EXPLORER:
                    return 1;
                case BOY:
                    return 4;
                case MAID:
                    return 3;
                case DOG:
                    return 5;
                default:
                    return 2;
            }
        }

        static int laughs(int kind, int hour) {
            switch (kind) {
                case COOK:
                    return 5;
                case EXPLORER:
                    return 50;
                case BOY:
                    return 3 + hour % 3;
                case MAID:
                    return 0;
                case NURSE:
                    return 1;
                case DOG:
                    return 2;
                default:
                    return 3;
            }
        }

        static int laces(int kind) {
            if (kind == MAID) {
                return 4;
            }
            return kind == NURSE ? 8 : 0;
        }

        /** Whether a kind is the wanted one or stands under it. */
        static boolean isUnder(int kind, int wanted) {
            int k = kind;
            for (int i = 0; i < COUNT && k >= 0 && k < COUNT; i++) {
                if (k == wanted) {
                    return true;
                }
                k = ABOVE[k];
            }
            return false;
        }
    }

    /** All that an image keeps: cells, the list, the cord, guests, hour, draws and spots. */
    private static final class House {
        static final int CELLS = 16;
        static final int GREATEST_BASE = 40;
        static final int PLACES = 6;
        static final int LEAST_MEASURE = 16;
        static final int GREATEST_MEASURE = 36;
        static final int MEASURES = 21;
        static final int NATURAL_MEASURE = 26;
        static final int GUESTS = 8;
        static final int LEAST_SIZE = 1;
        static final int GREATEST_SIZE = 40;
        static final int FIRST_SIZE = 10;
        static final int GREATEST_STUCK = 9999;
        static final int GREATEST_STRAIN = 9999;
        static final int LAST_HOUR = 99999;
        static final int SPOTS = 10;
        static final int NOBODY = -1;

        final int[] bases = new int[CELLS];
        final int[] list = new int[PLACES];
        int cord = 200;
        int strain = 0;
        int snapped = 0;
        int hour = 0;
        int count = 0;
        final int[] kind = new int[GUESTS];
        final int[] at = new int[GUESTS];
        final int[] size = new int[GUESTS];
        final int[] aim = new int[GUESTS];
        final int[] stuck = new int[GUESTS];
        final int[] home = new int[GUESTS];
        int z = 1;
        final int[] spots = new int[SPOTS];

        House() {
            Arrays.fill(bases, 20);
            Arrays.fill(list, NATURAL_MEASURE);
            Arrays.fill(spots, NOBODY);
        }

        void become(House other) {
            System.arraycopy(other.bases, 0, bases, 0, CELLS);
            System.arraycopy(other.list, 0, list, 0, PLACES);
            cord = other.cord;
            strain = other.strain;
            snapped = other.snapped;
            hour = other.hour;
            count = other.count;
            System.arraycopy(other.kind, 0, kind, 0, GUESTS);
            System.arraycopy(other.at, 0, at, 0, GUESTS);
            System.arraycopy(other.size, 0, size, 0, GUESTS);
            System.arraycopy(other.aim, 0, aim, 0, GUESTS);
            System.arraycopy(other.stuck, 0, stuck, 0, GUESTS);
            System.arraycopy(other.home, 0, home, 0, GUESTS);
            z = other.z;
            System.arraycopy(other.spots, 0, spots, 0, SPOTS);
        }

        boolean isFull() {
            return count >= GUESTS;
        }

        /** A new guest's number; the caller has seen that there is room. */
        int add(int newKind, int cell) {
            if (isFull()) {
                return NOBODY;
            }
            kind[count] = newKind;
            at[count] = cell;
            size[count] = FIRST_SIZE;
            aim[count] = cell;
            stuck[count] = 0;
            home[count] = 0;
            count++;
            return count - 1;
        }

        void sendHome(int set) {
            for (int g = 0; g < count; g++) {
                if ((set >> g & 1) == 1) {
                    home[g] = 1;
                }
            }
        }

        /** The row of what 0 to 5 of guests. */
        int[] trait(int what) {
            switch (what) {
                case 0:
                    return kind;
                case 1:
                    return at;
                case 2:
                    return size;
                case 3:
                    return aim;
                case 4:
                    return stuck;
                default:
                    return home;
            }
        }

        int needs(int g) {
            return Kinds.needs(kind[g], size[g], stuck[g], hour);
        }

        int placeNow() {
            return hour % PLACES;
        }

        int measureNow() {
            return snapped == 1 ? GREATEST_MEASURE : list[placeNow()];
        }

        int width(int cell, int m) {
            return Math.max(0, bases[cell] + m - NATURAL_MEASURE);
        }

        int reachable(int g, int m) {
            int needed = needs(g);
            int set = 1 << at[g];
            for (int c = at[g] + 1; c < CELLS && width(c, m) >= needed; c++) {
                set |= 1 << c;
            }
            for (int c = at[g] - 1; c >= 0 && width(c, m) >= needed; c--) {
                set |= 1 << c;
            }
            return set;
        }

        boolean canReach(int g, int cell, int m) {
            return (reachable(g, m) >> cell & 1) == 1;
        }

        int measuresToAim(int g) {
            int many = 0;
            for (int m = LEAST_MEASURE; m <= GREATEST_MEASURE; m++) {
                if (canReach(g, aim[g], m)) {
                    many++;
                }
            }
            return many;
        }

        void passHours(int n) {
            for (int i = 0; i < n; i++) {
                passHour();
            }
        }

        /** Whether it isn't snapped behind n hours; a snapped cord stays so, so it need not go on. */
        boolean holdsFor(int n) {
            for (int i = 0; i < n && snapped == 0; i++) {
                passHour();
            }
            return snapped == 0;
        }

        void passHour() {
            int m = measureNow();
            for (int g = 0; g < count; g++) {
                if (home[g] == 0 && at[g] != aim[g]) {
                    walk(g, m);
                }
            }
            if (snapped == 0) {
                pull(m);
            }
            hour = Math.min(hour + 1, LAST_HOUR);
        }

        private void walk(int g, int m) {
            int needed = needs(g);
            int steps = Kinds.steps(kind[g]);
            int onward = aim[g] > at[g] ? 1 : -1;
            int gone = 0;
            // Between a cell and another one that is aimed at there is always a next one.
            while (gone < steps && at[g] != aim[g] && width(at[g] + onward, m) >= needed) {
                at[g] += onward;
                gone++;
            }
            stuck[g] = gone > 0 ? 0 : Math.min(stuck[g] + 1, GREATEST_STUCK);
        }

        private void pull(int m) {
            int more = GREATEST_MEASURE - m;
            int less = 0;
            for (int g = 0; g < count; g++) {
                if (home[g] == 0) {
                    more += at[g] == 0 ? Kinds.laughs(kind[g], hour) : 0;
                    less += Kinds.laces(kind[g]);
                }
            }
            strain = Math.min(Math.max(strain + more - less, 0), GREATEST_STRAIN);
            if (strain > cord) {
                snapped = 1;
            }
        }

        private int draw() {
            z = z * 1103515245 + 12345;
            return z >>> 8;
        }

        void passPartyHour() {
            list[placeNow()] = LEAST_MEASURE + draw() % MEASURES;
            int g = draw() % GUESTS;
            if (g < count) {
                aim[g] = (aim[g] + 1) % CELLS;
            }
            passHour();
        }

        int thoseStuck() {
            int set = 0;
            for (int g = 0; g < count; g++) {
                set |= stuck[g] > 0 ? 1 << g : 0;
            }
            return set;
        }

        int thoseAtAim() {
            int set = 0;
            for (int g = 0; g < count; g++) {
                set |= at[g] == aim[g] ? 1 << g : 0;
            }
            return set;
        }

        int thoseInHall() {
            int set = 0;
            for (int g = 0; g < count; g++) {
                set |= at[g] == 0 && home[g] == 0 ? 1 << g : 0;
            }
            return set;
        }

        int closedCells() {
            int m = measureNow();
            int set = 0;
            for (int c = 0; c < CELLS; c++) {
                set |= width(c, m) == 0 ? 1 << c : 0;
            }
            return set;
        }

        int howManyHome() {
            int many = 0;
            for (int g = 0; g < count; g++) {
                many += home[g];
            }
            return many;
        }

        int howManyHeld() {
            int many = 0;
            for (int i = 0; i < SPOTS; i++) {
                many += spots[i] == NOBODY ? 0 : 1;
            }
            return many;
        }
    }

    /** Four rows of numbers, each of some bits, or missing (0 bits). */
    private static final class Sheets {
        static final int COUNT = 4;
        static final int LONGEST = 40;
        static final int ANY = -1;

        final int[][] numbers = new int[COUNT][LONGEST];
        final int[] bits = new int[COUNT];
        final int[] length = new int[COUNT];

        static boolean isSheet(int s) {
            return s >= 0 && s < COUNT;
        }

        static boolean areBits(int b) {
            return b == 0 || b == 8 || b == 16 || b == 32;
        }

        boolean isMissing(int s) {
            return bits[s] == 0;
        }

        int make(int s, int newBits, int n) {
            bits[s] = newBits;
            length[s] = newBits == 0 ? 0 : n;
            Arrays.fill(numbers[s], 0);
            return length[s];
        }

        void put(int s, int i, int v) {
            // Numbers bear a sign in any width, or no sheet of 8 bits could tell -1.
            int unused = 32 - bits[s];
            numbers[s][i] = v << unused >> unused;
        }

        boolean hasRange(int s, int from, int n) {
            return from >= 0 && n >= 0 && n <= length[s] && from <= length[s] - n;
        }
    }

    /** The tape, and the reading of it as a text. */
    private static final class Tape {
        private static final int ROOM = 120;

        private static final int END = 0;
        private static final int WORD = 1;
        private static final int NUMBER = 2;
        private static final int SEMICOLON = 3;
        private static final int NO_TOKEN = 4;

        private static final int GREATEST_NUMBER = 9999;

        private final int[] bytes = new int[ROOM];
        int length = 0;
        private int place = 0;
        private int token = END;
        private int start = 0;
        private int number = 0;

        boolean hasRoomFor(int n) {
            return n <= ROOM - length;
        }

        void add(int b) {
            if (hasRoomFor(1)) {
                bytes[length] = b;
                length++;
            }
        }

        /** How many items a house was told, or -1 less the fault. */
        int read(House told) {
            place = 0;
            next();
            // No item is shorter than a byte, so there are never more of them than bytes.
            for (int items = 1; items <= ROOM; items++) {
                if (!readItem(told)) {
                    return -1 - start;
                }
                if (token == END) {
                    return items;
                }
                if (token != SEMICOLON) {
                    return -1 - start;
                }
                next();
            }
            return -1 - start;
        }

        private boolean readItem(House told) {
            int kind = kindTold();
            if (kind >= 0) {
                return readGuest(told, kind);
            }
            if (isWord("cell")) {
                return readPair(told.bases, 0, House.GREATEST_BASE);
            }
            if (isWord("measure")) {
                return readPair(told.list, House.LEAST_MEASURE, House.GREATEST_MEASURE);
            }
            if (isWord("cord")) {
                next();
                if (!takeNumber(0, GREATEST_SETTING[0])) {
                    return false;
                }
                told.cord = number;
                next();
                return true;
            }
            return false;
        }

        private boolean readGuest(House told, int kind) {
            if (told.isFull()) {
                return false;
            }
            next();
            int at = 0;
            if (isWord("at")) {
                next();
                if (!takeNumber(0, House.CELLS - 1)) {
                    return false;
                }
                at = number;
                next();
            }
            int g = told.add(kind, at);
            return readTrait("size", told.size, g, House.LEAST_SIZE, House.GREATEST_SIZE)
                    && readTrait("to", told.aim, g, 0, House.CELLS - 1);
        }

        /** Perhaps a word and its number, which goes into a guest's row; false with a fault. */
        private boolean readTrait(String word, int[] row, int g, int least, int greatest) {
            if (!isWord(word)) {
                return true;
            }
            next();
            if (!takeNumber(least, greatest) || g < 0 || g >= row.length) {
                return false;
            }
            row[g] = number;
            next();
            return true;
        }

        /** A place of a row and what comes to stand there. */
        private boolean readPair(int[] row, int least, int greatest) {
            next();
            if (!takeNumber(0, row.length - 1)) {
                return false;
            }
            int i = number;
            next();
            if (!takeNumber(least, greatest)) {
                return false;
            }
            row[i] = number;
            next();
            return true;
        }

        private boolean takeNumber(int least, int greatest) {
            return token == NUMBER && number >= least && number <= greatest;
        }

        private int kindTold() {
            for (int kind = 0; kind < Kinds.COUNT; kind++) {
                if (isWord(wordOf(kind))) {
                    return kind;
                }
            }
            return -1;
        }

        private static String wordOf(int kind) {
            switch (kind) {
                case Kinds.COOK:
                    return "cook";
                case Kinds.BOY:
                    return "boy";
                case Kinds.MAID:
                    return "maid";
                case Kinds.NURSE:
                    return "nurse";
                case Kinds.DOG:
                    return "dog";
                case Kinds.EXPLORER:
                    return "explorer";
                default:
                    return "guest";
            }
        }

        /** Whether the token is that word; place stands behind the token. */
        private boolean isWord(String word) {
            if (token != WORD || place - start != word.length()) {
                return false;
            }
            for (int i = 0; i < word.length(); i++) {
                if (bytes[start + i] != word.charAt(i)) {
                    return false;
                }
            }
            return true;
        }

        private void next() {
            while (place < length && bytes[place] == ' ') {
                place++;
            }
            start = place;
            if (place >= length) {
                token = END;
            } else if (isLetter(bytes[place])) {
                token = WORD;
                while (place < length && isLetter(bytes[place])) {
                    place++;
                }
            } else if (isDigit(bytes[place])) {
                token = NUMBER;
                number = 0;
                while (place < length && isDigit(bytes[place])) {
                    // One more than the greatest is as bad as any above it, and can't overflow.
                    number = Math.min(10 * number + bytes[place] - '0', GREATEST_NUMBER + 1);
                    place++;
                }
            } else if (bytes[place] == ';') {
                token = SEMICOLON;
                place++;
            } else {
                token = NO_TOKEN;
            }
        }

        private static boolean isLetter(int b) {
            return b >= 'a' && b <= 'z';
        }

        private static boolean isDigit(int b) {
            return b >= '0' && b <= '9';
        }
    }
}
