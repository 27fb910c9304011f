import java.lang.reflect.Constructor;
import java.lang.reflect.Field;
import java.lang.reflect.Method;
import java.lang.reflect.Modifier;
import java.nio.file.Files;
import java.nio.file.Path;
import java.util.Arrays;
import java.util.Set;
import java.util.TreeSet;
import java.util.regex.Matcher;
import java.util.regex.Pattern;

/** The public face as the document prints it, and what of LANGUAGE.md can be seen by a look at the class and its source. */
public final class FormTest {
    private static final Path SOURCE = Path.of("src/main/java/LacedHouse.java");
    private static final Path DOCUMENT = Path.of("../shared/DOC.md");

    private static final Due due = new Due();

    public static void main(String[] args) throws Exception {
        faceIsTheDocuments();
        nothingElseIsSeen();
        staticFieldsAreFinal();
        sourceKeepsToTheLanguage();
        methodsAreShort();
        divisorsAreLookedAt();
        callsMakeNoObjects();
        due.end();
    }

    private static void faceIsTheDocuments() throws Exception {
        Matcher m = Pattern.compile("    public (int|long) (\\w+)\\(([^)]*)\\);").matcher(Files.readString(DOCUMENT));
        Set<String> want = new TreeSet<>();
        while (m.find()) {
            int parameters = m.group(3).isEmpty() ? 0 : m.group(3).split(",").length;
            want.add(m.group(1) + " " + m.group(2) + " " + "int ".repeat(parameters));
        }
        Set<String> got = new TreeSet<>();
        for (Method method : LacedHouse.class.getDeclaredMethods()) {
            if (Modifier.isPublic(method.getModifiers())) {
                StringBuilder row = new StringBuilder(method.getReturnType() + " " + method.getName() + " ");
                for (Class<?> c : method.getParameterTypes()) {
                    row.append(c).append(' ');
                }
                got.add(row.toString());
            }
        }
        due.is("methods in the document", want.size(), 41);
        due.same("face", got, want);
        due.holds("final", Modifier.isFinal(LacedHouse.class.getModifiers()));
        Constructor<?>[] made = LacedHouse.class.getDeclaredConstructors();
        due.is("constructors", made.length, 1);
        due.is("its parameters", made[0].getParameterCount(), 0);
    }

    private static void nothingElseIsSeen() {
        Set<String> open = new TreeSet<>();
        Set<String> hidden = new TreeSet<>();
        for (Method method : LacedHouse.class.getDeclaredMethods()) {
            boolean isPublic = Modifier.isPublic(method.getModifiers());
            due.holds(method + " is public or private", isPublic || Modifier.isPrivate(method.getModifiers()));
            (isPublic ? open : hidden).add(method.getName());
        }
        for (Field field : LacedHouse.class.getDeclaredFields()) {
            due.holds(field + " is private", Modifier.isPrivate(field.getModifiers()));
        }
        for (Class<?> inside : LacedHouse.class.getDeclaredClasses()) {
            due.holds(inside + " is static", Modifier.isStatic(inside.getModifiers()));
            for (Method method : inside.getDeclaredMethods()) {
                hidden.add(method.getName());
            }
        }
        for (String name : hidden) {
            due.holds(name + " is no name of the face", !open.contains(name));
        }
    }

    private static void staticFieldsAreFinal() {
        staticFieldsOf(LacedHouse.class);
        for (Class<?> inside : LacedHouse.class.getDeclaredClasses()) {
            staticFieldsOf(inside);
        }
    }

    private static void staticFieldsOf(Class<?> c) {
        for (Field field : c.getDeclaredFields()) {
            if (Modifier.isStatic(field.getModifiers())) {
                due.holds(field + " is final", Modifier.isFinal(field.getModifiers()));
            }
        }
    }

    private static String bareSource() throws Exception {
        return Files.readString(SOURCE).replaceAll("(?s)/\\*.*?\\*/", "").replaceAll("//[^\n]*", "")
            .replaceAll("\"[^\"\n]*\"", "TEXT").replaceAll("'[^'\n]+'", "SIGN");
    }

    private static void sourceKeepsToTheLanguage() throws Exception {
        String source = bareSource();
        for (String word : new String[] {"throw", "throws", "try", "catch", "synchronized", "assert", "package", "protected",
            "volatile", "transient", "native", "goto", "var", "Object", "Exception", "Exact", "Random", "Thread", "HashMap"}) {
            due.holds("no " + word, !Pattern.compile("\\b" + word + "\\b").matcher(source).find());
        }
        for (String sign : new String[] {"->", "::", "@", "TEXT +", "+ TEXT"}) {
            due.holds("no " + sign, !source.contains(sign));
        }
        Matcher imports = Pattern.compile("import ([\\w.]+);").matcher(source);
        while (imports.find()) {
            due.holds("import " + imports.group(1),
                Arrays.asList("java.util.Arrays", "java.util.ArrayList", "java.util.List").contains(imports.group(1)));
        }
        Matcher used = Pattern.compile("\\b(Math|Integer|Long|Arrays|System)\\.(\\w+)").matcher(source);
        while (used.find()) {
            due.holds(used.group(), Arrays.asList("max", "min", "bitCount", "fill", "arraycopy").contains(used.group(2)));
        }
        due.holds("signs 10 to 126", source.chars().allMatch(c -> c == 10 || c >= 32 && c < 127));
    }

    private static void methodsAreShort() throws Exception {
        int begin = -1;
        String[] lines = Files.readString(SOURCE).split("\n");
        for (int i = 0; i < lines.length; i++) {
            if (lines[i].matches("( {4}| {8})(public |private |static |final )*[\\w\\[\\]]+ \\w+\\(.*\\{")) {
                begin = i;
            }
            if (begin >= 0 && lines[i].equals(lines[begin].replaceAll("\\S.*", "") + "}")) {
                due.holds(lines[begin].trim() + " is short", i - begin < 60);
                begin = -1;
            }
        }
    }

    /** Each divisor is a number or a constant above 0, or the lines of its method ask before whether it is 0. */
    private static void divisorsAreLookedAt() throws Exception {
        String source = bareSource();
        Matcher divided = Pattern.compile("[/%]=? *([^\\s;)]+)").matcher(source);
        int seen = 0;
        while (divided.find()) {
            String divisor = divided.group(1);
            String ahead = source.substring(source.lastIndexOf("\n\n", divided.start()), divided.start());
            boolean isConstant = divisor.matches("[1-9]\\d*")
                || divisor.matches("(\\w+\\.)?[A-Z_]+") && isAboveZero(source, divisor.replaceAll(".*\\.", ""));
            due.holds("divisor " + divisor + " is looked at", isConstant
                || Pattern.compile("\\b" + Pattern.quote(divisor) + " (> 0|!= 0)").matcher(ahead).find());
            seen++;
        }
        due.holds("divisors are seen", seen > 5);
    }

    private static boolean isAboveZero(String source, String constant) {
        return Pattern.compile("static final int " + constant + " = [1-9]\\d*;").matcher(source).find();
    }

    /** All calls of a run live in one room, so calls make nothing that stays there. */
    private static void callsMakeNoObjects() {
        com.sun.management.ThreadMXBean threads =
            (com.sun.management.ThreadMXBean) java.lang.management.ManagementFactory.getThreadMXBean();
        long sum = dearCalls();
        long self = Thread.currentThread().getId();
        long before = threads.getThreadAllocatedBytes(self);
        LacedHouse x = new LacedHouse();
        long house = threads.getThreadAllocatedBytes(self) - before;
        before = threads.getThreadAllocatedBytes(self);
        sum -= dearCalls();
        long run = threads.getThreadAllocatedBytes(self) - before;
        due.is("the same answers", sum, 0);
        due.is("the house is new", x.count(0), 0);
        due.holds("a house takes " + house + " bytes", house < 16384);
        due.holds("a run takes " + run + " bytes", run < 2 * 16384);
    }

    private static long dearCalls() {
        LacedHouse x = new LacedHouse();
        long sum = 0;
        for (int i = 0; i < 9; i++) {
            sum += x.guest(i % 7, i);
            sum += x.change(i, 3, 15 - i);
        }
        sum += x.sheet(0, 8, 40);
        for (int i = 0; i < 16; i++) {
            sum += x.send(20) + x.tight(2, 60) + x.kindFor(i % 8, 60) + x.sizeFor(i % 8, 60) + x.fits(0, i % 8);
            sum += x.kinds(0, i % 8) + x.snaps() + x.comes(i % 8, 15) + x.stuck(i % 8, 200) + x.odds(i % 8, 13, 0);
            sum += x.feed('d' << 16 | 'o' << 8 | 'g', 3) + x.text() + x.image() + x.party(20) + x.undo() + x.strain(100);
            sum += x.copy(0, 0, 0, 1, 39) + x.load(0) + x.judge(0) + x.reach(i % 8, 20) + x.go(1);
        }
        return sum;
    }
}
