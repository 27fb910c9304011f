import java.lang.reflect.Method;
import java.util.ArrayList;
import java.util.List;
import java.util.Random;

/** Runs of calls by lot (each time the same) on a LacedHouse and on the plain house of the tests: all answers are alike. */
public final class RandomRunsTest {
    private static final int RUNS = 1500;
    private static final int CALLS = 512;
    private static final int[] EDGES = {-1, 0, 1, 2, 5, 6, 7, 8, 9, 10, 13, 15, 16, 20, 21, 26, 36, 37, 40, 41, 60, 61, 100, 101,
        999, 1000, 9999, 10000, 255, 256, 65535, 65536, Integer.MIN_VALUE, Integer.MAX_VALUE};
    private static final String[] WORDS = {"guest", "cook", "boy", "maid", "nurse", "dog", "explorer", "at", "size", "to", "cell",
        "measure", "cord", ";", "#", "guests", "x"};

    private static final Due due = new Due();
    private static final List<String> rows = new ArrayList<>();

    private static Random lot;
    private static LacedHouse x;
    private static PlainHouse y;
    private static boolean parted;

    public static void main(String[] args) throws Exception {
        List<Method> face = new ArrayList<>();
        for (Method m : LacedHouse.class.getDeclaredMethods()) {
            if (java.lang.reflect.Modifier.isPublic(m.getModifiers())) {
                face.add(m);
            }
        }
        face.sort((a, b) -> a.getName().compareTo(b.getName()));
        due.is("methods of the face", face.size(), 41);
        for (int run = 0; run < RUNS; run++) {
            lot = new Random(run);
            x = new LacedHouse();
            y = new PlainHouse();
            rows.clear();
            parted = false;
            begin();
            while (rows.size() < CALLS && !parted) {
                if (lot.nextInt(25) == 0) {
                    feedText();
                    call(find(face, "text"));
                } else if (lot.nextInt(20) == 0) {
                    tellPlaces();
                } else {
                    Method m = face.get(lot.nextInt(face.size()));
                    call(m, arguments(m));
                }
            }
        }
        due.end();
    }

    private static Method find(List<Method> face, String name) {
        for (Method m : face) {
            if (m.getName().equals(name)) {
                return m;
            }
        }
        throw new IllegalStateException(name);
    }

    private static Method named(String name, int parameters) throws Exception {
        Class<?>[] ints = new Class<?>[parameters];
        java.util.Arrays.fill(ints, int.class);
        return LacedHouse.class.getDeclaredMethod(name, ints);
    }

    /** Most runs begin with guests on their way in a house of uneven cells. */
    private static void begin() throws Exception {
        int guests = lot.nextInt(9);
        for (int g = 0; g < guests; g++) {
            call(named("guest", 2), lot.nextInt(7), lot.nextInt(4) == 0 ? 0 : lot.nextInt(16));
            call(named("change", 3), g, 2, 1 + lot.nextInt(lot.nextBoolean() ? 20 : 40));
            call(named("change", 3), g, 3, lot.nextInt(16));
        }
        for (int c = 0; c < 16; c++) {
            if (lot.nextInt(3) == 0) {
                call(named("cell", 2), c, lot.nextInt(41));
            }
        }
        for (int i = 0; i < 6; i++) {
            if (lot.nextBoolean()) {
                call(named("measure", 2), i, 16 + lot.nextInt(21));
            }
        }
        call(named("set", 2), 0, lot.nextInt(1000));
    }

    private static void feedText() throws Exception {
        StringBuilder text = new StringBuilder();
        int most = 20 + lot.nextInt(101);
        while (text.length() < most) {
            text.append(item());
            text.append(lot.nextInt(30) == 0 ? "" : ";");
            text.append(" ".repeat(lot.nextInt(2)));
        }
        if (lot.nextInt(4) != 0) {
            int end = text.lastIndexOf(";", most - 1);
            text.setLength(end > 0 ? end : Math.min(most, text.length()));
        } else {
            text.setLength(most);
        }
        if (lot.nextInt(5) == 0 && text.length() > 0) {
            text.setCharAt(lot.nextInt(text.length()), (char) lot.nextInt(256));
        }
        call(named("wipe", 0));
        for (int i = 0; i < text.length(); i += 4) {
            int n = Math.min(4, text.length() - i);
            int bytes = lot.nextInt();
            for (int k = 0; k < n; k++) {
                bytes = bytes << 8 | text.charAt(i + k);
            }
            call(named("feed", 2), bytes, n);
        }
    }

    private static String item() {
        if (lot.nextInt(12) == 0) {
            return WORDS[lot.nextInt(WORDS.length)] + blank() + number(50);
        }
        switch (lot.nextInt(5)) {
            case 0:
                return "cell" + blank() + number(16) + " " + number(41);
            case 1:
                return "measure" + blank() + number(6) + " " + (16 + lot.nextInt(21));
            case 2:
                return "cord" + blank() + number(1000);
            default:
                return WORDS[lot.nextInt(7)] + (lot.nextBoolean() ? " at" + blank() + number(16) : "")
                    + (lot.nextBoolean() ? " size" + blank() + number(41) : "")
                    + (lot.nextBoolean() ? " to" + blank() + number(16) : "");
        }
    }

    private static String blank() {
        return " ".repeat(lot.nextInt(3));
    }

    private static String number(int bound) {
        return "0".repeat(lot.nextInt(8) == 0 ? lot.nextInt(5) : 0) + lot.nextInt(lot.nextInt(40) == 0 ? bound + 9 : bound);
    }

    /** A sheet that tells where a guest will be, perhaps with some places left open or one wrong. */
    private static void tellPlaces() throws Exception {
        int guests = y.a.guests.size();
        if (guests == 0) {
            return;
        }
        int g = lot.nextInt(guests);
        int s = lot.nextInt(4);
        int n = lot.nextInt(6);
        int changed = lot.nextInt(3);
        PlainHouse.All then = y.a.copy();
        if (changed == 1) {
            then.list[then.hour % 6] = 16 + lot.nextInt(21);
        }
        if (changed == 2) {
            then.guests.set(g, PlainHouse.recast(then.guests.get(g), lot.nextInt(7)));
        }
        call(named("sheet", 3), s, 8 << lot.nextInt(3), n);
        for (int i = 0; i < n; i++) {
            then.pass();
            int told = lot.nextInt(4) == 0 ? -1 : then.guests.get(g).at;
            call(named("write", 3), s, i, lot.nextInt(15) == 0 ? lot.nextInt(16) : told);
        }
        call(named("fits", 2), s, g);
        call(named("kinds", 2), s, g);
        call(named("judge", 1), s);
    }

    private static Object[] arguments(Method m) {
        Object[] args = new Object[m.getParameterCount()];
        for (int i = 0; i < args.length; i++) {
            args[i] = argument(m.getName(), i);
        }
        return args;
    }

    private static int argument(String name, int i) {
        switch (lot.nextInt(24)) {
            case 0:
                return lot.nextInt();
            case 1:
                return EDGES[lot.nextInt(EDGES.length)];
            default:
                break;
        }
        int[] bounds = boundsOf(name);
        return bounds == null ? lot.nextInt() : bounds[2 * i] + lot.nextInt(bounds[2 * i + 1] - bounds[2 * i] + 1);
    }

    /** For each argument the least and the greatest that is common. */
    private static int[] boundsOf(String name) {
        switch (name) {
            case "set": return new int[] {0, 2, 0, lot.nextBoolean() ? 1 : 600};
            case "cell": return new int[] {0, 15, 0, 40};
            case "measure": return new int[] {0, 5, 16, 36};
            case "listed": return new int[] {0, 5};
            case "wide": return new int[] {0, 15, 16, 36};
            case "guest": return new int[] {0, 6, 0, 15};
            case "of": return new int[] {0, 8, 0, 9};
            case "change": return new int[] {0, 7, 0, 5, 0, lot.nextInt(3) == 0 ? 40 : 6};
            case "reach": return new int[] {0, 7, 16, 36};
            case "go": return new int[] {1, lot.nextBoolean() ? 3 : 60};
            case "now": return new int[] {0, 7};
            case "ahead": return new int[] {0, 7, 0, 6, 0, 20};
            case "strain": return new int[] {0, 100};
            case "comes": return new int[] {0, 7, 0, 15};
            case "stuck": return new int[] {0, 7, 0, lot.nextBoolean() ? 5 : 210};
            case "tight": return new int[] {0, 5, 0, 60};
            case "measureFor": return new int[] {0, 7, 0, 15};
            case "kindFor": return new int[] {0, 7, 0, 60};
            case "sizeFor": return new int[] {0, 7, 0, 60};
            case "send": return new int[] {0, 20};
            case "fits": return new int[] {0, 3, 0, 7};
            case "kinds": return new int[] {0, 3, 0, 7};
            case "party": return new int[] {1, 20};
            case "odds": return new int[] {0, 7, 0, 13, 0, 1};
            case "hold": return new int[] {0, 9, -1, 7};
            case "as": return new int[] {0, 9, 0, 6};
            case "sheet": return new int[] {0, 3, 0, 32, -1, 41};
            case "write": return new int[] {0, 3, 0, 20, -2, 41};
            case "copy": return new int[] {0, 3, 0, 6, 0, 3, 0, 6, 0, 8};
            case "load": return new int[] {0, 3};
            case "judge": return new int[] {0, 3};
            case "count": return new int[] {0, 7};
            case "status": return new int[] {-1, 6};
            case "feed": return new int[] {0, 1 << 30, 1, 4};
            default: return null;
        }
    }

    private static void call(Method m, Object... args) throws Exception {
        if (rows.size() >= CALLS || parted) {
            return;
        }
        String row = m.getName() + java.util.Arrays.toString(args);
        rows.add(row);
        long got = ((Number) m.invoke(x, args)).longValue();
        Method plain = PlainHouse.class.getDeclaredMethod(m.getName(), m.getParameterTypes());
        long want = ((Number) plain.invoke(y, args)).longValue();
        due.is("call " + rows.size() + ", " + row, got, want);
        if (got != want) {
            parted = true;
            System.out.println("the run was: " + rows);
        }
    }
}
