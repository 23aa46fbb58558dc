/** Promises 9 to 13, 26 and 27: ACTS, undone, IMAGES. */
public final class ActsTest {
    public static void main(String[] args) {
        promise9years();
        promise9full();
        promise10deed();
        promise11restore();
        promise12hang();
        promise13undo();
        promise13oldest();
        promise26image();
        promise27recall();
        Check.end();
    }

    private static void cells(String when, PortraitYears x, int... due) {
        for (int p = 0; p < due.length; p++) {
            Check.due(when + ", CELLS of " + p, x.picture(p, 1), due[p]);
        }
    }

    private static void promise9years() {
        PortraitYears x = Check.told(Check.FIVE);
        Check.due("one", x.years(1), 31);
        cells("YEAR 1", x, 17, 26, 9, 21, 5);
        Check.due("three more", x.years(3), 31);
        cells("YEAR 4", x, 8, 14, 9, 9, 5);
        Check.due("three more", x.years(3), 22);
        cells("YEAR 7", x, 0, 2, 6, 0, 5);
        Check.due("YEAR", x.count(3), 7);
        Check.due("an ACT each", x.count(6), 7);
        Check.due("n 0", x.years(0), Check.BAD);
        Check.due("n 25", x.years(25), Check.BAD);
        Check.due("n -1", x.years(-1), Check.BAD);
        Check.due("n largest", x.years(Integer.MAX_VALUE), Check.BAD);
        Check.due("24", x.years(24), 16);
        Check.due("YEAR then", x.count(3), 31);
        PortraitYears empty = Check.told("g1,1;w1,1;");
        Check.due("no PICTURES", empty.years(2), 0);
        Check.due("no PICTURES, YEAR", empty.count(3), 2);
    }

    private static void promise9full() {
        PortraitYears x = Check.told("g1,1;w1,1;u7,60,0;");
        for (int i = 0; i < 41; i++) {
            x.years(24);
        }
        Check.due("YEAR", x.count(3), 984);
        Check.due("beyond 999", x.years(16), Check.FULL);
        Check.due("BAD ahead of FULL", x.years(25), Check.BAD);
        Check.due("stays", x.count(3), 984);
        Check.due("to 999", x.years(15), 0);
        Check.due("beyond", x.years(1), Check.FULL);
        x.undo();
        Check.due("again", x.years(1), 0);
        Check.due("YEAR 999", x.count(3), 999);
    }

    private static void promise10deed() {
        PortraitYears x = Check.told(Check.FIVE);
        Check.due("deed", x.deed(0, 1), 19);
        Check.due("deed more", x.deed(0, 18), 1);
        Check.due("v 0", x.deed(0, 0), Check.BAD);
        Check.due("v 61", x.deed(0, 61), Check.BAD);
        Check.due("v -1", x.deed(0, -1), Check.BAD);
        Check.due("picture 5", x.deed(5, 1), Check.BAD);
        Check.due("picture -1", x.deed(-1, 1), Check.BAD);
        Check.due("0 at least", x.deed(0, 60), 0);
        Check.due("DEAD", x.deed(0, 1), Check.STATE);
        Check.due("BAD ahead of STATE", x.deed(0, 61), Check.BAD);
        Check.due("three ACTS", x.count(6), 3);
        Check.due("just so many", x.deed(4, 5), 0);
        Check.due("who LIVES", x.count(5), 14);
    }

    private static void promise11restore() {
        PortraitYears x = Check.told("g5,50;w1,1;o1,50,0;s1,10,0;p1,60,0;");
        Check.due("restore", x.restore(1, 5), 15);
        Check.due("PURSE", x.count(4), 45);
        Check.due("as far as 60", x.restore(0, 60), 60);
        Check.due("PURSE for what came", x.count(4), 35);
        Check.due("none comes", x.restore(2, 7), 60);
        Check.due("PURSE stays", x.count(4), 35);
        Check.due("an ACT all the same", x.count(6), 3);
        Check.due("not enough", x.restore(1, 36), Check.STATE);
        Check.due("not enough for what would come", x.restore(1, 60), Check.STATE);
        Check.due("just enough", x.restore(1, 35), 50);
        Check.due("PURSE 0", x.count(4), 0);
        Check.due("one more", x.restore(1, 1), Check.STATE);
        Check.due("none comes, no PENNY", x.restore(0, 1), 60);
        Check.due("v 0", x.restore(1, 0), Check.BAD);
        Check.due("v 61", x.restore(1, 61), Check.BAD);
        Check.due("picture 3", x.restore(3, 1), Check.BAD);
        Check.due("picture -1", x.restore(-1, 1), Check.BAD);
        x.deed(2, 60);
        Check.due("DEAD", x.restore(2, 1), Check.STATE);
        x = Check.told("g5,99;w1,1;o1,50,0;");
        x.deed(0, 60);
        Check.due("DEAD, PURSE enough", x.restore(0, 1), Check.STATE);
        Check.due("BAD ahead of STATE", x.restore(0, 0), Check.BAD);
    }

    private static void promise12hang() {
        PortraitYears x = Check.told(Check.FIVE);
        Check.due("no ROOM", x.hang(2, 0), Check.FULL);
        Check.due("there", x.hang(2, 2), Check.STATE);
        Check.due("STATE ahead of FULL", x.hang(0, 0), Check.STATE);
        Check.due("wall 3", x.hang(0, 3), Check.BAD);
        Check.due("wall -1", x.hang(0, -1), Check.BAD);
        Check.due("picture 5", x.hang(5, 0), Check.BAD);
        Check.due("picture -1", x.hang(-1, 0), Check.BAD);
        Check.due("no ACT yet", x.count(6), 0);
        Check.due("hang", x.hang(3, 2), 1);
        Check.due("it is there", x.picture(3, 2), 2);
        Check.due("fades by that WALL", x.picture(3, 4), 0);
        Check.due("an ACT", x.count(6), 1);
        x.deed(0, 60);
        Check.due("one of the DEAD", x.hang(0, 1), 0);
        Check.due("they take ROOM", x.hang(3, 1), Check.FULL);
    }

    private static void promise13undo() {
        PortraitYears x = Check.told(Check.FIVE);
        Check.due("none", x.undo(), Check.STATE);
        x.years(2);
        x.deed(0, 60);
        x.restore(1, 7);
        x.hang(0, 2);
        Check.due("hang undone", x.undo(), 4);
        Check.due("WALL", x.picture(0, 2), 0);
        Check.due("WALL's PICTURES", x.wall(2, 2), 4);
        Check.due("restore undone", x.undo(), 3);
        Check.due("PURSE", x.count(4), 30);
        cells("ahead of restore", x, 0, 22, 9, 17, 5);
        Check.due("deed undone", x.undo(), 2);
        cells("he LIVES again", x, 14, 22, 9, 17, 5);
        Check.due("a YEAR undone", x.undo(), 1);
        Check.due("YEAR 1", x.count(3), 1);
        cells("YEAR 1", x, 17, 26, 9, 21, 5);
        Check.due("a YEAR undone", x.undo(), 0);
        Check.due("YEAR 0", x.count(3), 0);
        cells("YEAR 0", x, 20, 30, 12, 25, 5);
        Check.due("none more", x.undo(), Check.STATE);
    }

    private static void promise13oldest() {
        PortraitYears x = Check.told("g2,9;w0,0;w0,0;o1,60,0;");
        x.deed(0, 1);
        x.deed(0, 2);
        x.years(24);
        Check.due("24 are kept", x.count(6), 24);
        x.hang(0, 1);
        Check.due("24 yet", x.count(6), 24);
        for (int left = 23; left >= 0; left--) {
            Check.due("undo", x.undo(), left);
        }
        Check.due("none", x.undo(), Check.STATE);
        Check.due("the first YEAR stands", x.count(3), 1);
        Check.due("both deeds stand", x.picture(0, 1), 56);
        Check.due("WALL", x.picture(0, 2), 0);
    }

    private static void promise26image() {
        PortraitYears x = Check.told(Check.FIVE);
        Check.due("image -1", x.image(-1), Check.BAD);
        Check.due("image 2", x.image(2), Check.BAD);
        Check.due("image 0", x.image(0), 1);
        x.years(2);
        Check.due("image 1", x.image(1), 1);
        Check.due("ACTS stay", x.count(6), 2);
        x.years(1);
        Check.due("recall 1", x.recall(1), 1);
        Check.due("YEAR 2", x.count(3), 2);
        Check.due("recall 0", x.recall(0), 1);
        Check.due("YEAR 0", x.count(3), 0);
        x.deed(0, 4);
        x.image(1);
        x.deed(0, 4);
        x.recall(1);
        Check.due("in place of the one before", x.picture(0, 1), 16);
        Check.due("BAD ahead of STATE", new PortraitYears().image(2), Check.BAD);
    }

    private static void promise27recall() {
        PortraitYears x = Check.told(Check.FIVE);
        Check.due("none was kept", x.recall(0), Check.STATE);
        Check.due("recall 2", x.recall(2), Check.BAD);
        Check.due("recall -1", x.recall(-1), Check.BAD);
        x.hang(0, 2);
        x.restore(0, 10);
        x.image(0);
        Check.due("the other was not", x.recall(1), Check.STATE);
        Check.due("another HOUSE", Check.read(x, "g1,9;w5,5;"), 0);
        Check.due("recall", x.recall(0), 1);
        Check.due("no ACT", x.count(6), 0);
        Check.due("undo", x.undo(), Check.STATE);
        Check.due("PICTURES", x.count(2), 5);
        Check.due("WALLS", x.count(1), 3);
        Check.due("PURSE", x.count(4), 20);
        Check.due("LIGHT", x.wall(0, 0), 6);
        Check.due("DAMP", x.wall(1, 1), 9);
        Check.due("KIND", x.kind(3), 4);
        Check.due("SKILL", x.picture(1, 0), 5);
        Check.due("WALL", x.picture(0, 2), 2);
        Check.due("ROOM", x.hang(1, 2), Check.FULL);
        cells("recalled", x, 30, 30, 12, 25, 5);
        x.years(5);
        x.recall(0);
        cells("recalled twice", x, 30, 30, 12, 25, 5);
        Check.due("no ACT from ahead of it", x.count(6), 0);
        Check.due("undo", x.undo(), Check.STATE);
    }
}
