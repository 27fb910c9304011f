import java.util.ArrayList;
import java.util.Collections;
import java.util.LinkedHashMap;
import java.util.List;
import java.util.Map;
import java.util.TreeSet;
import java.util.function.Supplier;

/** All that a house holds but its findings, by names, as far as calls can tell it. */
final class Look {
    /** What is told of a number of a sheet that is neither -1 nor 0 to 40: calls can't tell more of it. */
    static final int ANOTHER = 99;

    private static final String[] TRAITS = {"kind", "cell", "size", "aim", "stuck", "home"};

    private final Map<String, Integer> told = new LinkedHashMap<>();

    /** Looking changes a house, so each part is looked at in one that is made anew. */
    Look(Supplier<LacedHouse> house) {
        tellHouse("", house.get());
        for (int s = 0; s < 4; s++) {
            tellSheet(s, house.get());
        }
        tellTape(house.get());
        tellKept(house.get());
    }

    /** Each thing with what it is, in order of names. */
    List<String> rows() {
        List<String> rows = new ArrayList<>();
        told.forEach((name, v) -> rows.add(name + " " + v));
        Collections.sort(rows);
        return rows;
    }

    /** Each thing that is another one there, as "name was > is", in order of names. */
    List<String> changesTo(Look then) {
        TreeSet<String> names = new TreeSet<>(told.keySet());
        names.addAll(then.told.keySet());
        List<String> changes = new ArrayList<>();
        for (String name : names) {
            String was = String.valueOf(told.get(name)).replace("null", "none");
            String is = String.valueOf(then.told.get(name)).replace("null", "none");
            if (!was.equals(is)) {
                changes.add(name + " " + was + " > " + is);
            }
        }
        Collections.sort(changes);
        return changes;
    }

    private void tellHouse(String ahead, LacedHouse x) {
        told.put(ahead + "hour", x.count(0));
        told.put(ahead + "guests", x.count(1));
        told.put(ahead + "strain", x.count(2));
        told.put(ahead + "snapped", x.count(3));
        told.put(ahead + "z", x.count(6));
        told.put(ahead + "cord", x.set(0, 0));
        for (int g = 0; g < x.count(1); g++) {
            for (int what = 0; what < TRAITS.length; what++) {
                told.put(ahead + "guest " + g + " " + TRAITS[what], x.of(g, what));
            }
        }
        for (int spot = 0; spot < 10; spot++) {
            told.put(ahead + "spot " + spot, Math.max(x.as(spot, 0), -1));
        }
        for (int i = 0; i < 6; i++) {
            told.put(ahead + "list " + i, x.listed(i));
        }
        for (int c = 0; c < 16; c++) {
            told.put(ahead + "base " + c, x.cell(c, 0));
        }
    }

    private void tellSheet(int s, LacedHouse x) {
        int bits = 0;
        if (x.copy(s, 0, s, 0, 0) == Due.MISSING) {
            told.put("sheet " + s + " bits", bits);
            return;
        }
        int length = 40;
        while (length > 0 && x.copy(s, 0, s, 0, length) != length) {
            length--;
        }
        int other = (s + 1) % 4;
        for (int b = 8; b <= 32 && bits == 0; b *= 2) {
            x.sheet(other, b, 1);
            bits = x.copy(s, 0, other, 0, 0) == 0 ? b : 0;
        }
        told.put("sheet " + s + " bits", bits);
        told.put("sheet " + s + " length", length);
        x.guest(0, 0);
        for (int i = 0; i < length; i++) {
            x.copy(s, i, other, 0, 1);
            told.put("sheet " + s + " number " + i, number(x, other));
        }
    }

    /** Number 0 of a sheet of one: a base, if it can be loaded; -1, if any place of a guest is as it tells. */
    private static int number(LacedHouse x, int s) {
        if (x.load(s) == 1) {
            return x.cell(0, 0);
        }
        return x.fits(s, 0) == 21 ? -1 : ANOTHER;
    }

    private void tellTape(LacedHouse x) {
        told.put("tape", x.count(5));
        int answer = x.text();
        told.put("text", answer);
        if (answer > 0) {
            told.put("text cord", x.set(0, 0));
        }
    }

    private void tellKept(LacedHouse x) {
        boolean kept = x.undo() != Due.NONE;
        told.put("kept", kept ? 1 : 0);
        if (kept) {
            tellHouse("kept ", x);
        }
    }
}
