/** What every test of the project uses: it tells the calls whose answer is not the one that is due. */
final class Check {
    /** Two on each wall at most, 30 pence, three walls, one picture of each sort. */
    static final String FIVE = "g2,30;w6,3;w0,9;w9,0;o3,20,0;c5,30,0;u4,12,2;p2,25,1;s1,5,1;";

    static final int NONE = -1000000, BAD = -1000001, STATE = -1000002, FULL = -1000003;
    static final int NULL = -1000011, PLACE = -1000012, KIND = -1000013, SIZE = -1000014, STORE = -1000015;

    private static int wrong = 0;
    private static int looked = 0;

    private Check() {
    }

    static void due(String what, long got, long want) {
        looked++;
        if (got != want) {
            wrong++;
            System.out.println(what + " answered " + got + ", due is " + want);
        }
    }

    static void holds(String what, boolean is) {
        due(what, is ? 1 : 0, 1);
    }

    /** Feeds a text and reads it. */
    static int read(PortraitYears x, String text) {
        for (int i = 0; i < text.length(); i++) {
            x.feed(text.charAt(i));
        }
        return x.house();
    }

    /** A new object with the HOUSE of a text. */
    static PortraitYears told(String text) {
        PortraitYears x = new PortraitYears();
        int answer = read(x, text);
        if (answer < 0) {
            due("the text " + text, answer, 0);
        }
        return x;
    }

    /** A ROW of ints that holds these ITEMS. */
    static void fill(PortraitYears x, int row, int... items) {
        x.row(row, 2, items.length);
        for (int i = 0; i < items.length; i++) {
            x.set(row, i, items[i]);
        }
    }

    static void end() {
        System.out.println(looked + " looked at, " + wrong + " wrong");
        if (wrong != 0) {
            System.exit(1);
        }
    }
}
