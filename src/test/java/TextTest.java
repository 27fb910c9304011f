/** Promises 28 to 30: the tape and texts. */
public final class TextTest {
    private static final Due due = new Due();

    public static void main(String[] args) {
        feedAndWipe();
        guests();
        otherItems();
        tokens();
        faults();
        everyCutIsAFaultOrAText();
        ninthGuest();
        aFaultChangesNothing();
        due.end();
    }

    private static void feedAndWipe() {
        LacedHouse x = new LacedHouse();
        due.is("n 0", x.feed(7, 0), Due.BEYOND);
        due.is("n 5", x.feed(7, 5), Due.BEYOND);
        due.is("n -1", x.feed(7, -1), Due.BEYOND);
        due.is("one", x.feed('d', 1), 1);
        due.is("two", x.feed('o' << 8 | 'g', 2), 3);
        due.is("count", x.count(5), 3);
        due.is("dog", x.text(), 1);
        due.is("it is a dog", x.of(0, 0), Due.DOG);
        due.is("empty then", x.count(5), 0);
        due.is("three of four bytes, the highest first", x.feed('x' << 24 | 'b' << 16 | 'o' << 8 | 'y', 3), 3);
        due.is("boy", x.text(), 1);
        due.is("it is a boy", x.of(1, 0), Due.BOY);
        for (int i = 1; i <= 30; i++) {
            due.is("feed " + i, x.feed(-1, 4), 4 * i);
        }
        due.is("full", x.feed(0, 1), Due.FULL);
        due.is("beyond is asked first", x.feed(0, 5), Due.BEYOND);
        due.is("wipe", x.wipe(), 120);
        due.is("wipe again", x.wipe(), 0);
        for (int i = 1; i <= 59; i++) {
            x.feed(0, 2);
        }
        due.is("118 and 3", x.feed(0, 3), Due.FULL);
        due.is("118 and 2", x.feed(0, 2), 120);
        due.is("a byte of 0 begins no token", x.text(), -1);
        due.is("empty with a fault, too", x.count(5), 0);
        due.is("no finding", x.status(-1), 6);
    }

    private static void guests() {
        LacedHouse x = Due.told("guest;cook at 3;boy size 7;maid to 9;nurse at 15 size 40 to 0;dog at 1 to 2;explorer at 2 size 1");
        int[][] want = {{0, 0, 10, 0}, {1, 3, 10, 3}, {2, 0, 7, 0}, {3, 0, 10, 9}, {4, 15, 40, 0}, {5, 1, 10, 2},
            {6, 2, 1, 2}};
        for (int g = 0; g < want.length; g++) {
            for (int what = 0; what < 4; what++) {
                due.is("guest " + g + " what " + what, x.of(g, what), want[g][what]);
            }
            due.is("guest " + g + " stuck", x.of(g, 4), 0);
            due.is("guest " + g + " home", x.of(g, 5), 0);
        }
        due.is("seven", x.count(1), 7);
    }

    private static void otherItems() {
        LacedHouse x = new LacedHouse();
        due.is("four items", Due.read(x, "cell 15 40;cell 0 0;measure 5 36;measure 0 16"), 4);
        due.is("base of 15", x.cell(15, 1), 40);
        due.is("base of 0", x.cell(0, 1), 0);
        due.is("list 5", x.listed(5), 36);
        due.is("list 0", x.listed(0), 16);
        due.is("cord", Due.read(x, "cord 999"), 1);
        due.is("cord 999", x.set(0, 5), 999);
        due.is("the latest holds", Due.read(x, "cord 3;cell 2 7;cord 0;cell 2 8"), 4);
        due.is("cord 0", x.set(0, 5), 0);
        due.is("base of 2", x.cell(2, 1), 8);
    }

    private static void tokens() {
        due.is("no blanks", Due.read(new LacedHouse(), "guest at3size4to5;cell1 2;measure1 20;cord5"), 4);
        due.is("many blanks", Due.read(new LacedHouse(), "   cord   5   ;   dog   "), 2);
        due.is("zeros ahead", Due.read(new LacedHouse(), "cord 00000000000000000000000000000000000000000999"), 1);
        due.is("as long as can be", Due.read(new LacedHouse(), "cell 12"), -1 - 7);
        due.is("a word as long as can be", Due.read(new LacedHouse(), "dogcord 5"), -1);
        due.is("dogat", Due.read(new LacedHouse(), "dogat 5"), -1);
        due.is("a tab is no blank", Due.read(new LacedHouse(), "cord\t5"), -1 - 4);
        due.is("a great letter begins no token", Due.read(new LacedHouse(), "Cord 5"), -1);
        due.is("nor within a word", Due.read(new LacedHouse(), "doG"), -1);
        due.is("nor behind one", Due.read(new LacedHouse(), "dogG"), -1 - 3);
        due.is("a minus begins no token", Due.read(new LacedHouse(), "cord -5"), -1 - 5);
        due.is("a byte above 127", Due.read(new LacedHouse(), "dog " + (char) 225), -1 - 4);
        due.is("a huge number", Due.read(new LacedHouse(), "cord 4294967300"), -1 - 5);
        due.is("a huger one", Due.read(new LacedHouse(), "cord 18446744073709551621"), -1 - 5);
    }

    private static void faults() {
        String[] texts = {"", " ", "   ", ";", "5", "dog;", "dog; ", "dog;;dog", "dog dog", "dog 5", "lace", "guests", "gues",
            "dog at", "dog at ", "dog at x", "dog at 16", "dog at 15 15", "dog size", "dog size 0", "dog size 41", "dog to",
            "dog to 16", "dog size 3 at 2", "dog to 3 size 2", "dog to 3 at 2", "dog at 1 at 2", "dog size 1 size 2",
            "dog to 1 to 2", "dog at;dog", "at 3", "size 3", "to 3", "cell", "cell 16 3", "cell 1", "cell 1;", "cell 1 41",
            "cell 1 2 3", "cell x", "measure", "measure 6 20", "measure 5", "measure 5 15", "measure 5 37", "measure 5 x",
            "cord", "cord 1000", "cord x", "cord 5 5", "cord 9999", "cord 10000", "dog;cord 5;cell 3", "dog #", "cord #",
            "cook at 3#", "dog at 3 cord 5", "dord 5", "xuest", "dog it 3", "dox", "mell 3 3"};
        int[] want = {0, 1, 3, 0, 0, 4, 5, 4, 4, 4, 0, 0, 0,
            6, 7, 7, 7, 10, 8, 9, 9, 6,
            7, 11, 9, 9, 9, 11,
            9, 6, 0, 0, 0, 4, 5, 6, 6, 7,
            9, 5, 7, 8, 9, 10, 10, 10,
            4, 5, 5, 7, 5, 5, 17, 4, 5,
            9, 9, 0, 0, 4, 0, 0};
        due.is("as many", texts.length, want.length);
        for (int i = 0; i < texts.length; i++) {
            LacedHouse x = new LacedHouse();
            due.is("'" + texts[i] + "'", Due.read(x, texts[i]), -1 - want[i]);
            due.is("'" + texts[i] + "': no finding", x.status(-1), 0);
            due.is("'" + texts[i] + "': no guest", x.count(1), 0);
            due.is("'" + texts[i] + "': the tape is empty", x.count(5), 0);
        }
    }

    /** A text cut behind any byte is a text where an item may end there, else it ends too early or in half a word. */
    private static void everyCutIsAFaultOrAText() {
        String whole = "boy at 12 size 34 to 5;cell 10 40;measure 5 36;cord 99";
        int[] answers = {-1, -1, -1, 1, 1, -5, -7, -8, 1, 1, 1, -11, -11, -11, -15, -16, 1, 1, 1, -19, -21, -22, 1};
        for (int n = 0; n < answers.length; n++) {
            due.is("cut behind " + n, Due.read(new LacedHouse(), whole.substring(0, n)), answers[n]);
        }
        due.is("whole", Due.read(new LacedHouse(), whole), 4);
    }

    private static void ninthGuest() {
        LacedHouse x = new LacedHouse();
        due.is("nine", Due.read(x, "dog;dog;dog;dog;dog;dog;dog;dog;cord 3; dog at 99"), -1 - 40);
        due.is("none came", x.count(1), 0);
        due.is("cord stays", x.set(0, 200), 200);
        due.is("eight", Due.read(x, "dog;dog;dog;dog;dog;dog;dog;dog"), 8);
        due.is("eight came", x.count(1), 8);
        due.is("one more", Due.read(x, "cord 3;maid"), -1 - 7);
        due.is("an unknown word is a fault, too", Due.read(x, "maids"), -1);
        due.is("other items do", Due.read(x, "cord 3"), 1);
    }

    private static void aFaultChangesNothing() {
        LacedHouse x = Due.told("dog at 4");
        due.is("fault", Due.read(x, "cord 3;cell 2 2;measure 2 16;maid at 2;lace"), -1 - 39);
        due.is("cord", x.set(0, 200), 200);
        due.is("cell", x.cell(2, 20), 20);
        due.is("measure", x.listed(2), 26);
        due.is("guests", x.count(1), 1);
        due.is("dog stays", x.of(0, 1), 4);
        x.hold(1, 0);
        x.seed(9);
        x.go(2);
        due.is("text", Due.read(x, "cook"), 1);
        due.is("the hour stays", x.now(0), 2);
        due.is("z stays", x.count(6), 9);
        due.is("spots stay", x.as(1, 5), 0);
        due.is("its number is the next", x.of(1, 0), Due.COOK);
    }
}
