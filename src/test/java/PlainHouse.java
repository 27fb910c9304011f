import java.math.BigInteger;
import java.util.ArrayList;
import java.util.Arrays;
import java.util.List;
import java.util.regex.Matcher;
import java.util.regex.Pattern;

/** The document once more, in another form and without thrift: each trial is a copy, each kind a class. */
final class PlainHouse {
    static final int BEYOND = 0;
    static final int FULL = 1;
    static final int KIND = 2;
    static final int NONE = 3;
    static final int STATE = 4;
    static final int MISSING = 5;
    static final int SIZE = 6;

    static class Guest {
        int at;
        int size = 10;
        int aim;
        int stuck = 0;
        boolean home = false;

        int needs(int hour) { return size; }
        int steps() { return 2; }
        int laughs(int hour) { return 3; }
        int laces() { return 0; }
    }

    static class Cook extends Guest {
        @Override int needs(int hour) { return Math.max(0, super.needs(hour) + 4 - (stuck >= 3 ? 8 : 0)); }
        @Override int steps() { return super.steps() - 1; }
        @Override int laughs(int hour) { return super.laughs(hour) + 2; }
    }

    static final class Explorer extends Cook {
        @Override int needs(int hour) { return super.needs(hour) + 6; }
        @Override int laughs(int hour) { return 10 * super.laughs(hour); }
    }

    static class Boy extends Guest {
        @Override int needs(int hour) { return super.needs(hour) / 2; }
        @Override int steps() { return 2 * super.steps(); }
        @Override int laughs(int hour) { return super.laughs(hour) + hour % 3; }
    }

    static class Maid extends Boy {
        @Override int needs(int hour) { return super.needs(hour) + 3; }
        @Override int steps() { return super.steps() - 1; }
        @Override int laughs(int hour) { return 0; }
        @Override int laces() { return 4; }
    }

    static final class Nurse extends Maid {
        @Override int needs(int hour) { return super.needs(hour) + (hour % 2 == 1 ? 1 : 0); }
        @Override int steps() { return super.steps() - 1; }
        @Override int laughs(int hour) { return super.laughs(hour) + 1; }
        @Override int laces() { return 2 * super.laces(); }
    }

    static final class Dog extends Guest {
        @Override int needs(int hour) { return 4; }
        @Override int steps() { return 5; }
        @Override int laughs(int hour) { return 2; }
    }

    static final List<Class<? extends Guest>> CLASSES =
        List.of(Guest.class, Cook.class, Boy.class, Maid.class, Nurse.class, Dog.class, Explorer.class);

    static Guest make(int kind) {
        switch (kind) {
            case 0: return new Guest();
            case 1: return new Cook();
            case 2: return new Boy();
            case 3: return new Maid();
            case 4: return new Nurse();
            case 5: return new Dog();
            case 6: return new Explorer();
            default: throw new IllegalArgumentException();
        }
    }

    static Guest recast(Guest g, int kind) {
        Guest h = make(kind);
        h.at = g.at;
        h.size = g.size;
        h.aim = g.aim;
        h.stuck = g.stuck;
        h.home = g.home;
        return h;
    }

    static int kindOf(Guest g) {
        return CLASSES.indexOf(g.getClass());
    }

    static final class All {
        int[] base = new int[16];
        int[] list = new int[6];
        int cord = 200;
        int strain = 0;
        boolean snapped = false;
        int hour = 0;
        int z = 1;
        List<Guest> guests = new ArrayList<>();
        Integer[] spots = new Integer[10];

        All() {
            Arrays.fill(base, 20);
            Arrays.fill(list, 26);
        }

        All copy() {
            All a = new All();
            a.base = base.clone();
            a.list = list.clone();
            a.cord = cord;
            a.strain = strain;
            a.snapped = snapped;
            a.hour = hour;
            a.z = z;
            for (Guest g : guests) {
                a.guests.add(recast(g, kindOf(g)));
            }
            a.spots = spots.clone();
            return a;
        }

        int m() { return snapped ? 36 : list[hour % 6]; }
        int wide(int c, int m) { return base[c] + m <= 26 ? 0 : base[c] + m - 26; }

        All after(int n) {
            All a = copy();
            for (int i = 0; i < n; i++) {
                a.pass();
            }
            return a;
        }

        void pass() {
            int m = m();
            for (Guest g : guests) {
                if (g.home || g.at == g.aim) {
                    continue;
                }
                int from = g.at;
                int needs = g.needs(hour);
                for (int i = 0; i < g.steps(); i++) {
                    int next = g.at + Integer.signum(g.aim - g.at);
                    if (next == g.at || wide(next, m) < needs) {
                        break;
                    }
                    g.at = next;
                }
                g.stuck = g.at == from ? Math.min(9999, g.stuck + 1) : 0;
            }
            if (!snapped) {
                strain += 36 - m;
                for (Guest g : guests) {
                    strain += !g.home && g.at == 0 ? g.laughs(hour) : 0;
                }
                for (Guest g : guests) {
                    strain -= g.home ? 0 : g.laces();
                }
                strain = Math.max(0, Math.min(9999, strain));
                snapped = strain > cord;
            }
            hour = Math.min(99999, hour + 1);
        }

        boolean gets(int g, int cell, int m) {
            Guest who = guests.get(g);
            int step = Integer.signum(cell - who.at);
            for (int c = who.at; c != cell; ) {
                c += step;
                if (wide(c, m) < who.needs(hour)) {
                    return false;
                }
            }
            return true;
        }

        int draw() {
            z = z * 1103515245 + 12345;
            return z >>> 8;
        }
    }

    All a = new All();
    All kept = null;
    String tape = "";
    final int[][] sheets = new int[4][];
    final int[] bits = new int[4];
    final int[] told = new int[7];

    int f(int finding) {
        told[finding]++;
        return -1000001 - finding;
    }

    static boolean in(int v, int least, int most) { return least <= v && v <= most; }
    boolean who(int g) { return in(g, 0, a.guests.size() - 1); }

    int set(int what, int v) {
        if (what < 0 || what > 2 || v < 0 || v > (what == 0 ? 999 : what == 1 ? 9999 : 1)) return f(BEYOND);
        int was = what == 0 ? a.cord : what == 1 ? a.strain : a.snapped ? 1 : 0;
        if (what == 0) a.cord = v;
        if (what == 1) a.strain = v;
        if (what == 2) a.snapped = v == 1;
        return was;
    }

    int cell(int c, int v) {
        if (!in(c, 0, 15) || !in(v, 0, 40)) return f(BEYOND);
        int was = a.base[c];
        a.base[c] = v;
        return was;
    }

    int measure(int i, int v) {
        if (!in(i, 0, 5) || !in(v, 16, 36)) return f(BEYOND);
        int was = a.list[i];
        a.list[i] = v;
        return was;
    }

    int listed(int i) { return in(i, 0, 5) ? a.list[i] : f(BEYOND); }
    int wide(int c, int m) { return in(c, 0, 15) && in(m, 16, 36) ? a.wide(c, m) : f(BEYOND); }

    int guest(int kind, int c) {
        if (!in(kind, 0, 6) || !in(c, 0, 15)) return f(BEYOND);
        if (a.guests.size() == 8) return f(FULL);
        Guest g = make(kind);
        g.at = c;
        g.aim = c;
        a.guests.add(g);
        return a.guests.size() - 1;
    }

    static int trait(All a, int guest, int what) {
        Guest g = a.guests.get(guest);
        int[] all = {kindOf(g), g.at, g.size, g.aim, g.stuck, g.home ? 1 : 0, g.needs(a.hour), g.steps(), g.laughs(a.hour),
            g.laces()};
        return all[what];
    }

    int of(int g, int what) { return who(g) && in(what, 0, 9) ? trait(a, g, what) : f(BEYOND); }

    int change(int guest, int what, int v) {
        if (!who(guest)) return f(BEYOND);
        boolean good = what == 0 && in(v, 0, 6) || (what == 1 || what == 3) && in(v, 0, 15) || what == 2 && in(v, 1, 40)
            || what == 4 && in(v, 0, 9999) || what == 5 && in(v, 0, 1);
        if (!good) return f(BEYOND);
        int was = trait(a, guest, what);
        Guest g = a.guests.get(guest);
        if (what == 0) a.guests.set(guest, recast(g, v));
        if (what == 1) g.at = v;
        if (what == 2) g.size = v;
        if (what == 3) g.aim = v;
        if (what == 4) g.stuck = v;
        if (what == 5) g.home = v == 1;
        return was;
    }

    int reach(int g, int m) {
        if (!who(g) || !in(m, 16, 36)) return f(BEYOND);
        int set = 0;
        for (int c = 0; c < 16; c++) {
            if (a.gets(g, c, m)) set += 1 << c;
        }
        return set;
    }

    int go(int n) {
        if (!in(n, 1, 60)) return f(BEYOND);
        if (a.hour + n > 99999) return f(STATE);
        a = a.after(n);
        return a.strain;
    }

    int now(int what) {
        if (!in(what, 0, 7)) return f(BEYOND);
        int stuck = 0;
        int there = 0;
        int hall = 0;
        int closed = 0;
        for (int i = 0; i < a.guests.size(); i++) {
            Guest g = a.guests.get(i);
            if (g.stuck > 0) stuck |= 1 << i;
            if (g.at == g.aim) there |= 1 << i;
            if (g.at == 0 && !g.home) hall |= 1 << i;
        }
        for (int c = 0; c < 16; c++) {
            if (a.wide(c, a.m()) == 0) closed |= 1 << c;
        }
        return new int[] {a.hour, a.m(), a.strain, a.snapped ? 1 : 0, stuck, there, hall, closed}[what];
    }

    int ahead(int g, int what, int n) {
        if (!who(g) || !List.of(1, 4, 6).contains(what) || !in(n, 0, 100)) return f(BEYOND);
        return trait(a.after(n), g, what);
    }

    int strain(int n) { return in(n, 0, 100) ? a.after(n).strain : f(BEYOND); }

    int snaps() {
        All b = a.copy();
        for (int n = 0; n <= 200; n++, b.pass()) {
            if (b.snapped) return n;
        }
        return f(NONE);
    }

    int comes(int g, int c) {
        if (!who(g) || !in(c, 0, 15)) return f(BEYOND);
        All b = a.copy();
        for (int n = 0; n <= 200; n++, b.pass()) {
            if (b.guests.get(g).at == c) return n;
        }
        return f(NONE);
    }

    int stuck(int g, int v) {
        if (!who(g) || !in(v, 0, 9999)) return f(BEYOND);
        All b = a.copy();
        for (int n = 0; n <= 200; n++, b.pass()) {
            if (b.guests.get(g).stuck >= v) return n;
        }
        return f(NONE);
    }

    int tight(int i, int n) {
        if (!in(i, 0, 5) || !in(n, 0, 60)) return f(BEYOND);
        for (int m = 16; m <= 36; m++) {
            All b = a.copy();
            b.list[i] = m;
            if (!b.after(n).snapped) return m;
        }
        return f(NONE);
    }

    int measureFor(int g, int c) {
        if (!who(g) || !in(c, 0, 15)) return f(BEYOND);
        for (int m = 16; m <= 36; m++) {
            if (a.gets(g, c, m)) return m;
        }
        return f(NONE);
    }

    All as(All from, int g, int kind) {
        All b = from.copy();
        b.guests.set(g, recast(b.guests.get(g), kind));
        return b;
    }

    int kindFor(int g, int n) {
        if (!who(g) || !in(n, 0, 60)) return f(BEYOND);
        int best = 6;
        for (int kind = 5; kind >= 0; kind--) {
            if (as(a, g, kind).after(n).strain <= as(a, g, best).after(n).strain) best = kind;
        }
        return best;
    }

    int sizeFor(int g, int n) {
        if (!who(g) || !in(n, 0, 60)) return f(BEYOND);
        int best = 0;
        for (int size = 1; size <= 40; size++) {
            All b = a.copy();
            b.guests.get(g).size = size;
            Guest then = b.after(n).guests.get(g);
            if (then.at == then.aim) best = size;
        }
        return best > 0 ? best : f(NONE);
    }

    int send(int n) {
        if (!in(n, 0, 20)) return f(BEYOND);
        int best = -1;
        for (int set = 0; set < 1 << a.guests.size(); set++) {
            All b = a.copy();
            for (int g = 0; g < b.guests.size(); g++) {
                if ((set & 1 << g) != 0) b.guests.get(g).home = true;
            }
            if (!b.after(n).snapped && (best < 0 || Integer.bitCount(set) < Integer.bitCount(best))) best = set;
        }
        return best >= 0 ? best : f(NONE);
    }

    boolean asTold(All b, int s, int g) {
        for (int i = 0; i < sheets[s].length; i++) {
            if (sheets[s][i] != -1 && b.after(i + 1).guests.get(g).at != sheets[s][i]) return false;
        }
        return true;
    }

    int fits(int s, int g) {
        if (!in(s, 0, 3)) return f(BEYOND);
        if (sheets[s] == null) return f(MISSING);
        if (!who(g)) return f(BEYOND);
        int many = 0;
        for (int m = 16; m <= 36; m++) {
            All b = a.copy();
            b.list[b.hour % 6] = m;
            if (asTold(b, s, g)) many++;
        }
        return many;
    }

    int kinds(int s, int g) {
        if (!in(s, 0, 3)) return f(BEYOND);
        if (sheets[s] == null) return f(MISSING);
        if (!who(g)) return f(BEYOND);
        int set = 0;
        for (int kind = 0; kind < 7; kind++) {
            if (asTold(as(a, g, kind), s, g)) set |= 1 << kind;
        }
        return set;
    }

    int party(int n) {
        if (!in(n, 1, 20)) return f(BEYOND);
        if (a.hour + n > 99999) return f(STATE);
        for (int i = 0; i < n; i++) {
            a.list[a.hour % 6] = 16 + a.draw() % 21;
            int g = a.draw() % 8;
            if (who(g)) a.guests.get(g).aim = a.guests.get(g).aim == 15 ? 0 : a.guests.get(g).aim + 1;
            a.pass();
        }
        return a.strain;
    }

    long odds(int g, int n, int what) {
        if (!who(g) || !in(n, 0, 13) || !in(what, 0, 1)) return f(BEYOND);
        int good = 0;
        for (int m = 16; m <= 36; m++) {
            if (a.gets(g, a.guests.get(g).aim, m)) good++;
        }
        BigInteger above = BigInteger.valueOf(good).pow(n);
        BigInteger below = BigInteger.valueOf(21).pow(n);
        return (what == 0 ? above : below).divide(above.gcd(below)).longValueExact();
    }

    int seed(int v) {
        int was = a.z;
        a.z = v;
        return was;
    }

    int feed(int bytes, int n) {
        if (!in(n, 1, 4)) return f(BEYOND);
        if (tape.length() + n > 120) return f(FULL);
        for (int i = n; i-- > 0; ) {
            tape += (char) (bytes >> 8 * i & 255);
        }
        return tape.length();
    }

    int wipe() {
        int had = tape.length();
        tape = "";
        return had;
    }

    private static final Pattern TOKEN = Pattern.compile(" *(?:([a-z]+)|([0-9]+)|(;)|(?s:(.))|$)");
    private final List<String> tokens = new ArrayList<>();
    private final List<Integer> places = new ArrayList<>();
    private int at;

    private boolean numberIn(int least, int most) {
        String t = tokens.get(at);
        if (!t.matches("[0-9]+")) return false;
        BigInteger v = new BigInteger(t);
        return v.compareTo(BigInteger.valueOf(least)) >= 0 && v.compareTo(BigInteger.valueOf(most)) <= 0;
    }

    private int take() {
        return new BigInteger(tokens.get(at++)).intValueExact();
    }

    private boolean item(All b) {
        int kind = List.of("guest", "cook", "boy", "maid", "nurse", "dog", "explorer").indexOf(tokens.get(at));
        if (kind >= 0) {
            if (b.guests.size() == 8) return false;
            at++;
            Guest g = make(kind);
            if (tokens.get(at).equals("at")) {
                at++;
                if (!numberIn(0, 15)) return false;
                g.at = take();
                g.aim = g.at;
            }
            if (tokens.get(at).equals("size")) {
                at++;
                if (!numberIn(1, 40)) return false;
                g.size = take();
            }
            if (tokens.get(at).equals("to")) {
                at++;
                if (!numberIn(0, 15)) return false;
                g.aim = take();
            }
            b.guests.add(g);
            return true;
        }
        switch (tokens.get(at)) {
            case "cell": {
                at++;
                if (!numberIn(0, 15)) return false;
                int c = take();
                if (!numberIn(0, 40)) return false;
                b.base[c] = take();
                return true;
            }
            case "measure": {
                at++;
                if (!numberIn(0, 5)) return false;
                int i = take();
                if (!numberIn(16, 36)) return false;
                b.list[i] = take();
                return true;
            }
            case "cord":
                at++;
                if (!numberIn(0, 999)) return false;
                b.cord = take();
                return true;
            default:
                return false;
        }
    }

    int text() {
        tokens.clear();
        places.clear();
        Matcher m = TOKEN.matcher(tape);
        int from = 0;
        while (m.find(from) && m.start() == from && m.end() > from) {
            String t = m.group().replaceFirst("^ +", "");
            if (!t.isEmpty()) {
                tokens.add(t);
                places.add(m.end() - t.length());
            }
            from = m.end();
        }
        tokens.add("END");
        places.add(tape.length());
        tape = "";
        All b = a.copy();
        at = 0;
        int items = 0;
        while (true) {
            if (!item(b)) return -1 - places.get(at);
            items++;
            if (tokens.get(at).equals("END")) break;
            if (!tokens.get(at).equals(";")) return -1 - places.get(at);
            at++;
        }
        a = b;
        return items;
    }

    int hold(int spot, int g) {
        if (!in(spot, 0, 9) || g != -1 && !who(g)) return f(BEYOND);
        a.spots[spot] = g == -1 ? null : g;
        return 1;
    }

    int as(int spot, int kind) {
        if (!in(spot, 0, 9) || !in(kind, 0, 6)) return f(BEYOND);
        if (a.spots[spot] == null) return f(MISSING);
        return CLASSES.get(kind).isInstance(a.guests.get(a.spots[spot])) ? a.spots[spot] : f(KIND);
    }

    int sheet(int s, int b, int n) {
        if (!in(s, 0, 3) || !List.of(0, 8, 16, 32).contains(b)) return f(BEYOND);
        if (n < 0) return f(SIZE);
        if (n > 40) return f(BEYOND);
        sheets[s] = b == 0 ? null : new int[n];
        bits[s] = b;
        return b == 0 ? 0 : n;
    }

    int write(int s, int i, int v) {
        if (!in(s, 0, 3)) return f(BEYOND);
        if (sheets[s] == null) return f(MISSING);
        if (!in(i, 0, sheets[s].length - 1)) return f(BEYOND);
        sheets[s][i] = bits[s] == 8 ? (byte) v : bits[s] == 16 ? (short) v : v;
        return 1;
    }

    int copy(int s, int from, int t, int to, int n) {
        if (!in(s, 0, 3) || !in(t, 0, 3)) return f(BEYOND);
        if (sheets[s] == null || sheets[t] == null) return f(MISSING);
        if (bits[s] != bits[t]) return f(KIND);
        if (from < 0 || to < 0 || n < 0 || (long) from + n > sheets[s].length || (long) to + n > sheets[t].length) {
            return f(BEYOND);
        }
        int[] were = sheets[s].clone();
        for (int i = 0; i < n; i++) {
            sheets[t][to + i] = were[from + i];
        }
        return n;
    }

    int load(int s) {
        if (!in(s, 0, 3)) return f(BEYOND);
        if (sheets[s] == null) return f(MISSING);
        for (int i = 0; i < sheets[s].length; i++) {
            if (i == 16 || !in(sheets[s][i], 0, 40)) return i;
            a.base[i] = sheets[s][i];
        }
        return sheets[s].length;
    }

    int judge(int s) {
        if (!in(s, 0, 3)) return f(BEYOND);
        if (sheets[s] == null) return f(MISSING);
        for (int i = 0; i < sheets[s].length; i++) {
            if (i >= a.guests.size() || a.guests.get(i).at != sheets[s][i]) return i + 1;
        }
        return 0;
    }

    int image() {
        kept = a.copy();
        return 1;
    }

    int undo() {
        if (kept == null) return f(NONE);
        a = kept.copy();
        return a.hour;
    }

    int tear() {
        int was = kept == null ? 0 : 1;
        kept = null;
        return was;
    }

    int count(int what) {
        if (!in(what, 0, 7)) return f(BEYOND);
        int home = (int) a.guests.stream().filter(g -> g.home).count();
        int held = (int) Arrays.stream(a.spots).filter(s -> s != null).count();
        return new int[] {a.hour, a.guests.size(), a.strain, a.snapped ? 1 : 0, home, tape.length(), a.z, held}[what];
    }

    int status(int which) {
        if (!in(which, -1, 6)) return f(BEYOND);
        return which < 0 ? Arrays.stream(told).sum() : told[which];
    }
}
