/** Promises 2 to 5 and 33: ROWS, and status(). */
public final class RowsTest {
    public static void main(String[] args) {
        promise2row();
        promise3set();
        promise4copy();
        promise4copyOrder();
        promise5drop();
        promise33status();
        Check.end();
    }

    private static void promise2row() {
        PortraitYears x = new PortraitYears();
        Check.due("row(0,0,0)", x.row(0, 0, 0), 0);
        Check.due("row(7,2,40)", x.row(7, 2, 40), 40);
        Check.due("count(0)", x.count(0), 2);
        Check.due("row -1", x.row(-1, 0, 1), Check.BAD);
        Check.due("row 8", x.row(8, 0, 1), Check.BAD);
        Check.due("lane -1", x.row(1, -1, 1), Check.BAD);
        Check.due("lane 3", x.row(1, 3, 1), Check.BAD);
        Check.due("n 41", x.row(1, 0, 41), Check.BAD);
        Check.due("n largest", x.row(1, 0, Integer.MAX_VALUE), Check.BAD);
        Check.due("n -1", x.row(1, 0, -1), Check.SIZE);
        Check.due("n least", x.row(1, 0, Integer.MIN_VALUE), Check.SIZE);
        Check.due("BAD ahead of SIZE", x.row(8, 0, -1), Check.BAD);
        Check.due("BAD ahead of SIZE, lane", x.row(0, 3, -1), Check.BAD);
        Check.due("a refused ROW stays missing", x.drop(1), Check.NULL);
        x.set(7, 39, 5);
        Check.due("SIZE leaves what is there", x.row(7, 0, -1), Check.SIZE);
        Check.due("still 40 ITEMS", x.drop(7), 40);
        x.row(7, 2, 40);
        x.row(6, 2, 1);
        x.copy(7, 39, 6, 0, 1);
        Check.due("ITEMS are 0 at first", valueOf(x, 6, 0), 0);
        x.set(7, 0, 9);
        Check.due("in place of what is there", x.row(7, 1, 2), 2);
        Check.due("0 again", valueOf(x, 7, 0), 0);
        Check.due("place 2 is no more", x.set(7, 2, 1), Check.PLACE);
        Check.due("count(0) again", x.count(0), 3);
    }

    /** What an ITEM is (0 to 59), told by the picture in pencil that has so many left. */
    private static int valueOf(PortraitYears x, int row, int i) {
        Check.read(x, "g5,0;w0,0;p1,59,0;");
        int taken = x.fits(0, row, i, 1, 3);
        if (taken != 0) {
            return 59 - Integer.numberOfTrailingZeros(taken);
        }
        x.deed(0, 30);
        taken = x.fits(0, row, i, 1, 3);
        return taken == 0 ? -1 : 29 - Integer.numberOfTrailingZeros(taken);
    }

    private static void promise3set() {
        PortraitYears x = new PortraitYears();
        x.row(0, 0, 2);
        x.row(1, 1, 2);
        x.row(2, 2, 2);
        Check.due("byte 127", x.set(0, 0, 127), 127);
        Check.due("byte 128", x.set(0, 0, 128), -128);
        Check.due("byte 255", x.set(0, 1, 255), -1);
        Check.due("byte 256", x.set(0, 1, 256), 0);
        Check.due("byte -129", x.set(0, 1, -129), 127);
        Check.due("short 32768", x.set(1, 0, 32768), -32768);
        Check.due("short -32769", x.set(1, 1, -32769), 32767);
        Check.due("int least", x.set(2, 0, Integer.MIN_VALUE), Integer.MIN_VALUE);
        Check.due("int largest", x.set(2, 1, Integer.MAX_VALUE), Integer.MAX_VALUE);
        Check.due("place 2", x.set(0, 2, 1), Check.PLACE);
        Check.due("place -1", x.set(0, -1, 1), Check.PLACE);
        Check.due("place largest", x.set(0, Integer.MAX_VALUE, 1), Check.PLACE);
        Check.due("missing", x.set(3, 0, 1), Check.NULL);
        Check.due("missing ahead of place", x.set(3, -1, 1), Check.NULL);
        Check.due("row 8", x.set(8, 0, 1), Check.BAD);
        Check.due("row -1", x.set(-1, 0, 1), Check.BAD);
        x.row(4, 0, 0);
        Check.due("no place at all", x.set(4, 0, 1), Check.PLACE);
        x.set(2, 0, 44);
        Check.due("set is kept", valueOf(x, 2, 0), 44);
    }

    private static void promise4copy() {
        PortraitYears x = new PortraitYears();
        Check.fill(x, 0, 1, 2, 3, 4, 5);
        Check.fill(x, 1, 11, 12, 13);
        Check.due("copy to another", x.copy(0, 1, 1, 0, 2), 2);
        Check.due("1[0]", valueOf(x, 1, 0), 2);
        Check.due("1[1]", valueOf(x, 1, 1), 3);
        Check.due("1[2]", valueOf(x, 1, 2), 13);
        Check.due("copy upwards over itself", x.copy(0, 0, 0, 1, 4), 4);
        for (int i = 0; i < 5; i++) {
            Check.due("0[" + i + "]", valueOf(x, 0, i), i == 0 ? 1 : i);
        }
        Check.due("copy downwards over itself", x.copy(0, 1, 0, 0, 4), 4);
        for (int i = 0; i < 5; i++) {
            Check.due("0[" + i + "] then", valueOf(x, 0, i), i == 4 ? 4 : i + 1);
        }
        Check.due("none at the end", x.copy(0, 5, 1, 3, 0), 0);
        Check.due("all", x.copy(1, 0, 0, 2, 3), 3);
        Check.due("0[4]", valueOf(x, 0, 4), 13);
    }

    private static void promise4copyOrder() {
        PortraitYears x = new PortraitYears();
        x.row(0, 0, 4);
        x.row(1, 1, 4);
        x.row(2, 0, 3);
        Check.due("row 8", x.copy(8, 0, 0, 0, 1), Check.BAD);
        Check.due("row -1", x.copy(0, 0, -1, 0, 1), Check.BAD);
        Check.due("BAD ahead of NULL", x.copy(5, 0, 8, 0, 1), Check.BAD);
        Check.due("a missing", x.copy(5, 0, 0, 0, 1), Check.NULL);
        Check.due("b missing", x.copy(0, 0, 5, 0, 1), Check.NULL);
        Check.due("NULL ahead of PLACE", x.copy(0, -1, 5, 0, 1), Check.NULL);
        Check.due("two lanes", x.copy(0, 0, 1, 0, 1), Check.STORE);
        Check.due("STORE ahead of PLACE", x.copy(0, -1, 1, 0, 99), Check.STORE);
        Check.due("STORE with none", x.copy(0, 0, 1, 0, 0), Check.STORE);
        Check.due("i -1", x.copy(0, -1, 2, 0, 1), Check.PLACE);
        Check.due("j -1", x.copy(0, 0, 2, -1, 1), Check.PLACE);
        Check.due("n -1", x.copy(0, 0, 2, 0, -1), Check.PLACE);
        Check.due("beyond b", x.copy(0, 0, 2, 0, 4), Check.PLACE);
        Check.due("beyond a", x.copy(2, 0, 0, 0, 4), Check.PLACE);
        Check.due("i + n wraps", x.copy(0, 1, 0, 0, Integer.MAX_VALUE), Check.PLACE);
        Check.due("i largest", x.copy(0, Integer.MAX_VALUE, 0, 0, 1), Check.PLACE);
        Check.due("j largest, none", x.copy(0, 0, 0, Integer.MAX_VALUE, 0), Check.PLACE);
        Check.due("i 5, none", x.copy(0, 5, 0, 0, 0), Check.PLACE);
    }

    private static void promise5drop() {
        PortraitYears x = new PortraitYears();
        x.row(3, 1, 7);
        x.row(4, 0, 0);
        Check.due("drop 3", x.drop(3), 7);
        Check.due("drop 3 again", x.drop(3), Check.NULL);
        Check.due("drop an empty one", x.drop(4), 0);
        Check.due("none there", x.count(0), 0);
        Check.due("drop 8", x.drop(8), Check.BAD);
        Check.due("drop -1", x.drop(-1), Check.BAD);
        Check.due("a dropped one is missing", x.set(3, 0, 1), Check.NULL);
    }

    private static void promise33status() {
        PortraitYears x = new PortraitYears();
        Check.due("at first", x.status(), 0);
        x.drop(0);
        Check.due("NULL", x.status(), 1);
        x.row(0, 0, 41);
        Check.due("BAD leaves it", x.status(), 1);
        x.row(0, 0, 2);
        Check.due("row found nothing", x.status(), 0);
        x.set(0, 2, 0);
        Check.due("PLACE", x.status(), 2);
        x.feed('g');
        x.house();
        x.years(1);
        x.undo();
        x.count(0);
        Check.due("calls without a ROW leave it", x.status(), 2);
        x.set(0, 1, 0);
        Check.due("set found nothing", x.status(), 0);
        x.row(1, 2, -1);
        Check.due("SIZE", x.status(), 4);
        x.copy(0, 0, 0, 0, 1);
        Check.due("copy found nothing", x.status(), 0);
        x.row(1, 2, 1);
        x.copy(0, 0, 1, 0, 1);
        Check.due("STORE", x.status(), 5);
        x.drop(1);
        Check.due("drop found nothing", x.status(), 0);
        Check.read(x, Check.FIVE);
        x.as(0, 2);
        Check.due("KIND", x.status(), 3);
        x.as(0, 6);
        x.as(5, 0);
        Check.due("BAD as leaves it", x.status(), 3);
        x.as(0, 1);
        Check.due("as found nothing", x.status(), 0);
        x.fits(0, 5, 0, 1, 0);
        Check.due("fits NULL", x.status(), 1);
        x.fits(0, 0, 2, 1, 0);
        Check.due("fits PLACE", x.status(), 2);
        x.fits(0, 0, 0, 17, 0);
        Check.due("fits BAD leaves it", x.status(), 2);
        x.fits(0, 0, 0, 1, 0);
        Check.due("fits found nothing", x.status(), 0);
    }
}
