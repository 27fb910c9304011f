/** The edges of promises 38 to 42: images, counts and findings. */
public final class ImageEdgesTest {
    private static final int MIN = Integer.MIN_VALUE;
    private static final int MAX = Integer.MAX_VALUE;

    private static final Due due = new Due();
    private static final Acts lived = new Acts(due, Acts::lived);
    private static final Acts empty = new Acts(due, LacedHouse::new);

    public static void main(String[] args) {
        image();
        undo();
        undoOfAFullHouse();
        tear();
        count();
        countLimits();
        status();
        statusAndImages();
        everyFindingOfEveryAct();
        due.end();
    }

    /** As lived, but without an image. */
    private static LacedHouse torn() {
        LacedHouse x = Acts.lived();
        x.tear();
        return x;
    }

    private static void image() {
        LacedHouse x = torn();
        due.is("38: kept", x.image(), 1);
        due.is("38: kept again", x.image(), 1);
        lived.taken("38: what was kept is kept no more", LacedHouse::image, 1, "kept hour 0 > 1", "kept strain 40 > 55",
            "kept z 777 > -5", "kept guest 0 stuck 0 > 1", "kept spot 9 -1 > 2");
        Acts was = new Acts(due, () -> {
            LacedHouse y = Acts.lived();
            y.image();
            return y;
        });
        was.taken("38: the same again", LacedHouse::image, 1);
        was.taken("39: nothing was changed since", LacedHouse::undo, 1);
    }

    private static void undo() {
        empty.refused("39: nothing is kept", LacedHouse::undo, Due.NONE);
        new Acts(due, ImageEdgesTest::torn).refused("39: nothing is kept any more", LacedHouse::undo, Due.NONE);
        lived.taken("39: what was kept, which stays; neither tape nor sheets", LacedHouse::undo, 0, "hour 1 > 0",
            "strain 55 > 40", "z -5 > 777", "guest 0 stuck 1 > 0", "spot 9 2 > -1");
        Acts twice = new Acts(due, () -> {
            LacedHouse x = Acts.lived();
            x.undo();
            return x;
        });
        twice.taken("39: twice is as once", LacedHouse::undo, 0);
        LacedHouse y = new LacedHouse();
        y.go(60);
        y.image();
        y.go(60);
        due.is("39: HOUR, not how many went", y.undo(), 60);
    }

    /** An image of an empty house and of a full one, each undone from the other. */
    private static void undoOfAFullHouse() {
        LacedHouse x = new LacedHouse();
        x.image();
        due.is("eight come", Due.read(x, "dog;dog;dog;dog;dog;dog;dog;dog"), 8);
        for (int spot = 0; spot < 10; spot++) {
            x.hold(spot, 7);
        }
        x.undo();
        due.is("39: nobody is there again", x.count(1), 0);
        due.is("39: nobody is held", x.count(7), 0);
        due.is("39: no guest 0", x.of(0, 0), Due.BEYOND);
        LacedHouse y = Acts.dogs(8);
        for (int spot = 0; spot < 10; spot++) {
            y.hold(spot, 7);
        }
        for (int g = 0; g < 8; g++) {
            y.change(g, 5, 1);
        }
        y.image();
        for (int spot = 0; spot < 10; spot++) {
            y.hold(spot, -1);
        }
        for (int g = 0; g < 8; g++) {
            y.change(g, 5, 0);
        }
        y.undo();
        due.is("39: all are HOME again", y.count(4), 8);
        due.is("39: all SPOTS hold one again", y.count(7), 10);
        due.is("39: full as before", y.guest(0, 0), Due.FULL);
    }

    private static void tear() {
        empty.taken("40: nothing was", LacedHouse::tear, 0);
        new Acts(due, ImageEdgesTest::torn).taken("40: nothing was any more", LacedHouse::tear, 0);
        LacedHouse x = Acts.lived();
        due.is("40: something was", x.tear(), 1);
        due.is("40: nothing is", x.tear(), 0);
        due.is("40: nothing to undo", x.undo(), Due.NONE);
        due.is("40: the house stays", x.now(0), 1);
        due.is("40: so do guests", x.count(1), 3);
        x.image();
        x.image();
        due.is("40: two images are one", x.tear(), 1);
        due.is("40: none is left", x.tear(), 0);
        x.image();
        x.undo();
        due.is("40: what was undone is kept", x.tear(), 1);
    }

    private static void count() {
        int[] want = {1, 3, 55, 0, 1, 7, -5, 2};
        for (int what = 0; what < 8; what++) {
            int asked = what;
            lived.taken("41: count " + what, x -> x.count(asked), want[what]);
        }
        for (int what : new int[] {-1, 8, 9, MIN, MAX}) {
            lived.refused("41: count " + what, x -> x.count(what), Due.BEYOND);
        }
    }

    private static void countLimits() {
        LacedHouse x = Acts.dogs(8);
        for (int g = 0; g < 8; g++) {
            due.is("41: HOME", x.count(4), g);
            x.change(g, 5, 1);
        }
        due.is("41: all HOME", x.count(4), 8);
        due.is("41: all GUESTS", x.count(1), 8);
        for (int spot = 0; spot < 10; spot++) {
            x.hold(spot, spot % 2);
        }
        due.is("41: all SPOTS", x.count(7), 10);
        x.hold(0, -1);
        x.hold(9, -1);
        due.is("41: but two", x.count(7), 8);
        Due.feed(x, " ".repeat(120));
        due.is("41: a full tape", x.count(5), 120);
        x.set(1, 9999);
        due.is("41: the greatest STRAIN", x.count(2), 9999);
        x.set(2, 1);
        due.is("41: SNAPPED", x.count(3), 1);
        for (int z : new int[] {MIN, MAX, Due.BEYOND, 0}) {
            x.seed(z);
            due.is("41: z " + z, x.count(6), z);
        }
        due.is("41: no finding", x.status(-1), 0);
    }

    private static void status() {
        for (int which = -1; which < 7; which++) {
            int asked = which;
            empty.taken("42: none at first, " + which, x -> x.status(asked), 0);
        }
        for (int which : new int[] {-2, 7, 8, MIN, MAX}) {
            lived.refused("42: status " + which, x -> x.status(which), Due.BEYOND);
        }
        LacedHouse y = new LacedHouse();
        due.is("42: none", y.status(-1), 0);
        due.is("42: status 7", y.status(7), Due.BEYOND);
        due.is("42: counted from then on", y.status(-1), 1);
        due.is("42: as BEYOND", y.status(0), 1);
        for (int i = 2; i <= 400; i++) {
            y.listed(6);
        }
        due.is("42: 400 of them", y.status(0), 400);
        due.is("42: asking counts none", y.status(-1), 400);
    }

    private static void statusAndImages() {
        LacedHouse x = new LacedHouse();
        x.undo();
        x.image();
        x.listed(6);
        x.sheet(0, 8, -1);
        x.undo();
        int[] want = {1, 0, 0, 1, 0, 0, 1};
        for (int which = 0; which < 7; which++) {
            due.is("42: undo takes none back, " + which, x.status(which), want[which]);
        }
        x.tear();
        x.wipe();
        x.text();
        due.is("42: nor does anything else; a FAULT is none", x.status(-1), 3);
    }

    private static void everyFindingOfEveryAct() {
        LacedHouse x = Acts.dogs(8);
        x.hold(0, 0);
        Due.feed(x, " ".repeat(120));
        x.sheet(0, 8, 1);
        x.sheet(1, 16, 1);
        int[] got = {x.set(3, 0), x.guest(0, 0), x.feed(0, 1), x.as(0, 1), x.copy(0, 0, 1, 0, 1), x.undo(), x.comes(0, 1),
            x.stuck(0, 1), x.measureFor(0, 16), x.as(1, 0), x.fits(2, 0), x.kinds(2, 0), x.write(2, 0, 0), x.load(2), x.judge(2),
            x.copy(0, 0, 2, 0, 0), x.sheet(0, 0, -1), (int) x.odds(8, 0, 0)};
        int[] want = {Due.BEYOND, Due.FULL, Due.FULL, Due.KIND, Due.KIND, Due.NONE, Due.NONE, Due.NONE, Due.BEYOND, Due.MISSING,
            Due.MISSING, Due.MISSING, Due.MISSING, Due.MISSING, Due.MISSING, Due.MISSING, Due.SIZE, Due.BEYOND};
        for (int i = 0; i < want.length; i++) {
            due.is("42: finding " + i, got[i], want[i]);
        }
        int[] counted = {3, 2, 2, 3, 0, 7, 1};
        for (int which = 0; which < 7; which++) {
            due.is("42: how many " + which, x.status(which), counted[which]);
        }
        due.is("42: all", x.status(-1), want.length);
    }
}
