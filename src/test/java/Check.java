import java.nio.file.Path;

/** What the tests share: which sentence is looked at, and the calls whose answer is not the one that is due. */
abstract class Check {
    /** Two on each wall at most, 30 pence, three walls, one picture of each sort. */
    static final String FIVE = "g2,30;w6,3;w0,9;w9,0;o3,20,0;c5,30,0;u4,12,2;p2,25,1;s1,5,1;";

    static final int NONE = -1000000, BAD = -1000001, STATE = -1000002, FULL = -1000003;
    static final int NULL = -1000011, PLACE = -1000012, KIND = -1000013, SIZE = -1000014, STORE = -1000015;
    static final int LEAST = Integer.MIN_VALUE, LARGEST = Integer.MAX_VALUE;

    private static Doc doc = null;
    private static String saying = "";
    private static int lookedForIt = 0;
    private static int wrong = 0;
    private static int looked = 0;

    static void readDoc(Path path) throws java.io.IOException {
        doc = new Doc(path);
    }

    /** What follows looks at a sentence of a promise. */
    static void promise(int number, String sentence) {
        says("Promise " + number, sentence);
    }

    /** What follows looks at a sentence of a part of "Terms"; 0 is its head. */
    static void term(int part, String sentence) {
        says("Terms " + part, sentence);
    }

    static void says(String section, String sentence) {
        closeSaying();
        saying = section + ", \"" + sentence + "\": ";
        lookedForIt = 0;
        holds("it stands in the document", doc.quote(section, sentence));
        lookedForIt = 0;
    }

    /** Words that ask for nothing: what they say is free, or is said again elsewhere. */
    static void asksNothing(String section, String words) {
        closeSaying();
        saying = "";
        holds(section + " has: " + words, doc.quote(section, words));
    }

    private static void closeSaying() {
        if (!saying.isEmpty() && lookedForIt == 0) {
            due("tests of this sentence", 0, 1);
        }
    }

    /** Every word of the document was quoted by somebody. */
    static void nothingIsLeft() {
        closeSaying();
        saying = "";
        for (String words : doc.left()) {
            due("no test quotes " + words, 0, 1);
        }
        due("sections of the document", doc.sections(), 40);
    }

    static void due(String what, long got, long want) {
        looked++;
        lookedForIt++;
        if (got != want) {
            wrong++;
            System.out.println(saying + what + " answered " + got + ", due is " + want);
        }
    }

    static void holds(String what, boolean is) {
        due(what, is ? 1 : 0, 1);
    }

    /** Feeds a text and reads it. */
    static int read(PortraitYears x, String text) {
        for (int i = 0; i < text.length(); i++) {
            x.feed(text.charAt(i));
        }
        return x.house();
    }

    /** A new object with the HOUSE of a text. */
    static PortraitYears told(String text) {
        PortraitYears x = new PortraitYears();
        int answer = read(x, text);
        if (answer < 0) {
            due("the text " + text, answer, 0);
        }
        return x;
    }

    /** A ROW of ints that holds these ITEMS. */
    static void fill(PortraitYears x, int row, int... items) {
        x.row(row, 2, items.length);
        for (int i = 0; i < items.length; i++) {
            x.set(row, i, items[i]);
        }
    }

    /** A HOUSE of two shades, by which ITEMS can be read: no call tells them, but fits() compares with them. */
    static void openEyes(PortraitYears x) {
        due("two shades", read(x, "g2,0;w0,0;s1,59,0;s1,29,0;"), 2);
    }

    /** What an ITEM is, behind openEyes: 0 to 59; else -1. */
    static int item(PortraitYears x, int row, int i) {
        int above = x.fits(0, row, i, 1, 3);
        if (above > 0) {
            return 59 - Integer.numberOfTrailingZeros(above);
        }
        int below = x.fits(1, row, i, 1, 3);
        return below > 0 ? 29 - Integer.numberOfTrailingZeros(below) : -1;
    }

    static void items(String when, PortraitYears x, int row, int... due) {
        for (int i = 0; i < due.length; i++) {
            due(when + ", ITEM " + i + " of " + row, item(x, row, i), due[i]);
        }
    }

    static void cells(String when, PortraitYears x, int... due) {
        for (int p = 0; p < due.length; p++) {
            due(when + ", CELLS of " + p, x.picture(p, 1), due[p]);
        }
    }

    static void end() {
        System.out.println(looked + " looked at, " + wrong + " wrong");
        if (wrong != 0) {
            System.exit(1);
        }
    }
}
