/** Promises 16 to 25: what is FORETOLD. */
public final class ForetoldTest {
    public static void main(String[] args) {
        promise16remains();
        promise17lives();
        promise18dies();
        promise19first();
        promise20hanging();
        promise20ties();
        promise21save();
        promise22dark();
        promise23sorts();
        promise23skillsAndWalls();
        promise23deeds();
        promise23refused();
        promise24thieves();
        promise25drawn();
        nothingChanges();
        Check.end();
    }

    private static void promise16remains() {
        PortraitYears x = Check.told(Check.FIVE);
        int[] behindNine = {0, 0, 3, 0, 5};
        for (int p = 0; p < 5; p++) {
            Check.due("remains(" + p + ", 0)", x.remains(p, 0), x.picture(p, 1));
            Check.due("remains(" + p + ", 9)", x.remains(p, 9), behindNine[p]);
        }
        Check.due("60", x.remains(4, 60), 5);
        Check.due("d 61", x.remains(0, 61), Check.BAD);
        Check.due("d -1", x.remains(0, -1), Check.BAD);
        Check.due("picture 5", x.remains(5, 0), Check.BAD);
        Check.due("picture -1", x.remains(-1, 0), Check.BAD);
        x.years(3);
        Check.due("unsigned, YEAR 3, 1 on", x.remains(2, 1), 9);
        Check.due("unsigned, YEAR 3, 2 on", x.remains(2, 2), 6);
        Check.due("unsigned, YEAR 3, 5 on", x.remains(2, 5), 6);
        Check.due("unsigned, YEAR 3, 6 on", x.remains(2, 6), 3);
        x = Check.told("g1,0;w2,0;u1,60,0;");
        Check.due("unsigned, every YEAR divides", x.remains(0, 7), 60 - 7 * 3);
    }

    private static void promise17lives() {
        PortraitYears x = Check.told(Check.FIVE);
        Check.due("0", x.lives(0), 31);
        Check.due("6", x.lives(6), 31);
        Check.due("7", x.lives(7), 22);
        Check.due("8", x.lives(8), 20);
        Check.due("12", x.lives(12), 20);
        Check.due("13", x.lives(13), 16);
        Check.due("60", x.lives(60), 16);
        Check.due("61", x.lives(61), Check.BAD);
        Check.due("-1", x.lives(-1), Check.BAD);
        Check.due("none painted", Check.told("g1,1;w1,1;").lives(3), 0);
    }

    private static void promise18dies() {
        PortraitYears x = Check.told(Check.FIVE);
        int[] due = {7, 8, 13, 7, Check.NONE};
        for (int p = 0; p < 5; p++) {
            Check.due("dies(" + p + ")", x.dies(p), due[p]);
        }
        Check.due("dies(5)", x.dies(5), Check.BAD);
        Check.due("dies(-1)", x.dies(-1), Check.BAD);
        x.deed(4, 60);
        Check.due("DEAD now", x.dies(4), 0);
        PortraitYears slow = Check.told("g5,0;w1,1;u9,11,0;u9,12,0;o9,60,0;");
        Check.due("behind 91", slow.dies(0), 91);
        Check.due("behind 100 is NONE", slow.dies(1), Check.NONE);
        Check.due("behind 60", slow.dies(2), 60);
        slow.years(1);
        Check.due("behind 99", slow.dies(1), 99);
    }

    private static void promise19first() {
        PortraitYears x = Check.told(Check.FIVE);
        Check.due("who, of two the least", x.first(0), 0);
        Check.due("when", x.first(1), 7);
        Check.due("what 2", x.first(2), Check.BAD);
        Check.due("what -1", x.first(-1), Check.BAD);
        x.deed(0, 60);
        Check.due("who, but the DEAD", x.first(0), 3);
        Check.due("when, but the DEAD", x.first(1), 7);
        x.deed(2, 11);
        Check.due("who of one CELL", x.first(0), 2);
        Check.due("when of one CELL", x.first(1), 1);
        x = Check.told("g5,0;w1,1;u9,12,0;s1,1,0;");
        Check.due("none within 99", x.first(0), Check.NONE);
        Check.due("none within 99, when", x.first(1), Check.NONE);
        x.years(1);
        Check.due("behind 99, who", x.first(0), 0);
        Check.due("behind 99, when", x.first(1), 99);
        x = Check.told("g5,0;w1,1;");
        Check.due("none painted", x.first(0), Check.NONE);
    }

    private static void hangs(PortraitYears x, int d, int living, int cells, int... walls) {
        Check.due("hanging(" + d + ", -1)", x.hanging(d, -1), living);
        Check.due("hanging(" + d + ", -2)", x.hanging(d, -2), cells);
        for (int p = 0; p < 5; p++) {
            int due = p < walls.length ? walls[p] : Check.NONE;
            Check.due("hanging(" + d + ", " + p + ")", x.hanging(d, p), due);
        }
    }

    private static void promise20hanging() {
        PortraitYears x = Check.told(Check.FIVE);
        hangs(x, 0, 5, 92, 0, 0, 1, 1, 2);
        hangs(x, 1, 5, 87, 1, 1, 0, 2, 0);
        hangs(x, 9, 5, 59, 1, 1, 0, 2, 0);
        hangs(x, 30, 3, 34, 0, 0, 1, 2, 1);
        Check.due("d 61", x.hanging(61, 0), Check.BAD);
        Check.due("d -1", x.hanging(-1, 0), Check.BAD);
        Check.due("k 5", x.hanging(0, 5), Check.BAD);
        Check.due("k -3", x.hanging(0, -3), Check.BAD);
        x.deed(1, 60);
        hangs(x, 1, 4, 60, 1, 0, 1, 2, 0);
        hangs(Check.told("g1,1;w1,1;"), 5, 0, 0);
    }

    /** More who LIVE come ahead of more CELLS; those of the DEAD take ROOM, too. */
    private static void promise20ties() {
        PortraitYears x = Check.told("g1,0;w9,0;w0,9;o9,4,0;p9,60,1;");
        hangs(x, 2, 2, 62, 1, 0);
        x = Check.told("g1,0;w9,0;w0,0;c1,60,0;o1,15,1;");
        hangs(x, 2, 2, 33, 0, 1);
        x = Check.told("g1,0;w9,0;w0,0;c1,60,1;o1,15,0;");
        hangs(x, 2, 2, 33, 0, 1);
        x = Check.told("g1,0;w9,0;w0,0;c1,41,1;o1,21,0;");
        hangs(x, 2, 2, 38, 1, 0);
        x = Check.told("g1,0;w9,0;w0,0;c1,41,1;o1,20,0;");
        hangs(x, 2, 2, 19, 0, 1);
        x = Check.told("g1,0;w9,0;w0,0;o1,9,0;o1,9,1;");
        x.deed(0, 60);
        hangs(x, 2, 1, 7, 0, 1);
        x.undo();
        x.deed(1, 60);
        hangs(x, 2, 1, 7, 1, 0);
    }

    private static void promise21save() {
        PortraitYears x = Check.told(Check.FIVE);
        Check.due("none told", x.save(0, 60), 0);
        Check.due("one", x.save(1, 9), 8);
        Check.due("two", x.save(3, 9), 15);
        Check.due("three", x.save(7, 9), 15);
        Check.due("all", x.save(31, 9), 27);
        Check.due("they live as it is", x.save(31, 6), 0);
        Check.due("a shade lives", x.save(16, 60), 0);
        Check.due("PURSE is not enough", x.save(1, 17), Check.NONE);
        Check.due("too many to be there", x.save(1, 30), Check.NONE);
        Check.due("bits 32", x.save(32, 1), Check.BAD);
        Check.due("bits -1", x.save(-1, 1), Check.BAD);
        Check.due("d 61", x.save(0, 61), Check.BAD);
        Check.due("d -1", x.save(0, -1), Check.BAD);
        x.deed(4, 60);
        Check.due("the DEAD", x.save(16, 0), Check.NONE);
        Check.due("the DEAD, and others", x.save(17, 1), Check.NONE);
        x = Check.told("g5,30;w1,0;o2,30,0;o2,31,0;");
        Check.due("60 on it", x.save(1, 59), 30);
        Check.due("61 on it", x.save(1, 60), Check.NONE);
        Check.due("PURSE for both", x.save(3, 44), 29);
        Check.due("PURSE for just one", x.save(3, 45), Check.NONE);
        Check.due("bits 4", x.save(4, 1), Check.BAD);
    }

    private static void promise22dark() {
        PortraitYears x = Check.told(Check.FIVE);
        Check.due("which, of several the first", x.dark(1, 0), 0);
        Check.due("how many", x.dark(1, 1), 5);
        Check.due("which, 9", x.dark(9, 0), 0);
        Check.due("how many, 9", x.dark(9, 1), 4);
        Check.due("which, 30", x.dark(30, 0), 2);
        Check.due("how many, 30", x.dark(30, 1), 2);
        Check.due("what 2", x.dark(1, 2), Check.BAD);
        Check.due("what -1", x.dark(1, -1), Check.BAD);
        Check.due("d 61", x.dark(61, 0), Check.BAD);
        Check.due("d -1", x.dark(-1, 0), Check.BAD);
        x = Check.told("g1,0;w1,0;w2,9;o1,10,0;o1,10,1;");
        Check.due("LIGHT 0, not less: LIVES by one CELL", x.dark(9, 1), 1);
        Check.due("LIGHT 0: all DEAD", x.dark(10, 1), 0);
        Check.due("LIGHT 0: the first", x.dark(9, 0), 0);
        x = Check.told("g1,0;w9,9;w9,9;s1,1,0;o1,6,1;");
        Check.due("the second", x.dark(5, 0), 1);
        Check.due("the second, both", x.dark(5, 1), 2);
        Check.due("none painted, which", Check.told("g1,1;w1,1;w2,2;").dark(5, 0), 0);
        Check.due("none painted, how many", Check.told("g1,1;w1,1;w2,2;").dark(5, 1), 0);
    }

    private static void promise23sorts() {
        PortraitYears x = Check.told(Check.FIVE);
        Check.fill(x, 0, 17, 14, 11, 8, 5, 2, 0, 0, 0, 0, 0, 0, 0, 0, 0, 0);
        Check.due("oil or unsigned", x.fits(0, 0, 0, 1, 0), 2 | 8);
        Check.due("oil", x.fits(0, 0, 0, 16, 0), 2);
        Check.due("none", x.fits(1, 0, 0, 1, 0), 0);
        Check.fill(x, 1, 14, 8);
        Check.due("a copy", x.fits(0, 1, 0, 2, 0), 4);
        Check.fill(x, 2, 19, 18);
        Check.due("one in pencil", x.fits(0, 2, 0, 2, 0), 16);
        Check.fill(x, 3, 20);
        Check.due("a shade", x.fits(0, 3, 0, 1, 0), 32);
        x.years(1);
        Check.fill(x, 4, 99, 17, 17, 14);
        Check.due("unsigned, from a place on", x.fits(0, 4, 1, 3, 0), 8);
        x.deed(0, 60);
        Check.fill(x, 5, 0);
        Check.due("DEAD: all", x.fits(0, 5, 0, 1, 0), 62);
        x.row(6, 0, 1);
        Check.due("a ROW of bytes", x.fits(0, 6, 0, 1, 0), 62);
        Check.due("a byte", x.set(6, 0, 256 + 3), 3);
        Check.due("not 0", x.fits(0, 6, 0, 1, 0), 0);
    }

    private static void promise23skillsAndWalls() {
        PortraitYears x = Check.told(Check.FIVE);
        Check.fill(x, 0, 18, 16);
        Check.due("LIGHT 6 by 4, 5, 6", x.fits(0, 0, 0, 2, 1), 16 | 32 | 64);
        Check.due("no WALL", x.fits(0, 0, 0, 2, 2), 0);
        Check.fill(x, 0, 19, 18);
        Check.due("LIGHT 6 by 7, 8, 9", x.fits(0, 0, 0, 2, 1), 128 | 256 | 512);
        Check.due("the dark WALL", x.fits(0, 0, 0, 2, 2), 2);
        Check.fill(x, 0, 16);
        Check.due("LIGHT 6 by 2", x.fits(0, 0, 0, 1, 1), 4);
        Check.due("the light WALL", x.fits(0, 0, 0, 1, 2), 4);
        Check.due("SKILL of a shade", x.fits(4, 0, 0, 1, 1), 0);
        Check.fill(x, 0, 5, 5, 5);
        Check.due("SKILL of a shade, any", x.fits(4, 0, 0, 3, 1), 1022);
        Check.due("WALL of a shade, any, ROOM or not", x.fits(4, 0, 0, 3, 2), 7);
        Check.fill(x, 0, 24, 23);
        Check.due("one in pencil by DAMP 3", x.fits(3, 0, 0, 2, 2), 1);
        Check.fill(x, 0, 25, 25);
        Check.due("one in pencil by DAMP 0", x.fits(3, 0, 0, 2, 2), 4);
        Check.fill(x, 0, 7, 7);
        Check.due("unsigned by 2", x.fits(2, 0, 0, 2, 1), 4);
        Check.fill(x, 0, 10, 10, 10, 10, 10, 8);
        Check.due("unsigned by 5 to 9", x.fits(2, 0, 0, 5, 1), 32 | 64 | 128 | 256 | 512);
        Check.due("unsigned by 5", x.fits(2, 0, 0, 6, 1), 32);
    }

    private static void promise23deeds() {
        PortraitYears x = Check.told(Check.FIVE);
        Check.fill(x, 0, 17, 14, 11);
        Check.due("none taken", x.fits(0, 0, 0, 3, 3), 1);
        Check.due("9 taken", x.fits(1, 0, 0, 1, 3), 512);
        Check.fill(x, 0, 0, 0, 0);
        Check.due("17 and more", x.fits(0, 0, 0, 1, 3), (1 << 30) - (1 << 17));
        Check.due("27 and more", x.fits(1, 0, 0, 1, 3), (1 << 30) - (1 << 26));
        Check.fill(x, 0, 1);
        Check.due("25 taken", x.fits(1, 0, 0, 1, 3), 1 << 25);
        PortraitYears y = Check.told("g1,1;w0,0;s1,60,0;");
        Check.fill(y, 0, 31, 31);
        Check.due("29 taken", y.fits(0, 0, 0, 2, 3), 1 << 29);
        Check.fill(y, 0, 30, 30);
        Check.due("30 is beyond", y.fits(0, 0, 0, 2, 3), 0);
        Check.fill(y, 0, 61);
        Check.due("more than there are", y.fits(0, 0, 0, 1, 3), 0);
        y.deed(0, 60);
        Check.fill(y, 0, 0);
        Check.due("DEAD: any", y.fits(0, 0, 0, 1, 3), (1 << 30) - 1);
    }

    private static void promise23refused() {
        PortraitYears x = Check.told(Check.FIVE);
        x.row(0, 1, 20);
        Check.due("picture 5", x.fits(5, 0, 0, 1, 0), Check.BAD);
        Check.due("picture -1", x.fits(-1, 0, 0, 1, 0), Check.BAD);
        Check.due("row 8", x.fits(0, 8, 0, 1, 0), Check.BAD);
        Check.due("row -1", x.fits(0, -1, 0, 1, 0), Check.BAD);
        Check.due("n 0", x.fits(0, 0, 0, 0, 0), Check.BAD);
        Check.due("n 17", x.fits(0, 0, 0, 17, 0), Check.BAD);
        Check.due("what 4", x.fits(0, 0, 0, 1, 4), Check.BAD);
        Check.due("what -1", x.fits(0, 0, 0, 1, -1), Check.BAD);
        Check.due("BAD ahead of NULL", x.fits(0, 1, 0, 17, 0), Check.BAD);
        Check.due("missing", x.fits(0, 1, -1, 1, 0), Check.NULL);
        Check.due("i -1", x.fits(0, 0, -1, 1, 0), Check.PLACE);
        Check.due("i 20", x.fits(0, 0, 20, 1, 0), Check.PLACE);
        Check.due("beyond the end", x.fits(0, 0, 5, 16, 0), Check.PLACE);
        Check.due("i largest", x.fits(0, 0, Integer.MAX_VALUE, 1, 0), Check.PLACE);
        Check.due("to the end", x.fits(0, 0, 4, 16, 0), 0);
    }

    private static void chance(PortraitYears x, int m, int d, int c, int above, int below) {
        String call = "thieves(" + m + ", " + d + ", " + c + ")";
        Check.due(call + " above", x.thieves(m, d, c, 0), above);
        Check.due(call + " below", x.thieves(m, d, c, 1), below);
    }

    private static void promise24thieves() {
        PortraitYears x = Check.told(Check.FIVE);
        chance(x, 3, 1, 3, 20923, 25000);
        chance(x, 3, 9, 3, 0, 1);
        chance(x, 0, 9, 10, 1, 1);
        chance(x, 5, 0, 0, 1, 1);
        chance(x, 1, 0, 10, 0, 1);
        chance(x, 5, 0, 1, 59049, 100000);
        chance(x, 2, 9, 5, 1, 4);
        chance(x, 1, 9, 5, 3, 4);
        chance(x, 1, 9, 2, 24, 25);
        chance(x, 1, 60, 4, 3, 5);
        Check.due("m 6", x.thieves(6, 0, 0, 0), Check.BAD);
        Check.due("m -1", x.thieves(-1, 0, 0, 0), Check.BAD);
        Check.due("d 61", x.thieves(0, 61, 0, 0), Check.BAD);
        Check.due("d -1", x.thieves(0, -1, 0, 0), Check.BAD);
        Check.due("c 11", x.thieves(0, 0, 11, 0), Check.BAD);
        Check.due("c -1", x.thieves(0, 0, -1, 0), Check.BAD);
        Check.due("what 2", x.thieves(0, 0, 0, 2), Check.BAD);
        Check.due("what -1", x.thieves(0, 0, 0, -1), Check.BAD);
        chance(Check.told("g1,1;w1,1;"), 0, 3, 5, 1, 1);
        chance(Check.told("g1,1;w1,1;"), 1, 3, 5, 0, 1);
    }

    private static void promise25drawn() {
        PortraitYears x = Check.told(Check.FIVE);
        Check.due("n 0, who", x.drawn(0, 1, 0), 31);
        Check.due("n 0, CELLS", x.drawn(0, 1, 1), 92);
        // X is 16807: 2 of picture 2; then the first YEAR takes 3, 4, 3, 4 and 0.
        Check.due("n 1, CELLS", x.drawn(1, 1, 1), 92 - 2 - 14);
        // X is 282475249: 4 of picture 4; in YEAR 1 the unsigned one does not fade.
        Check.due("n 2, CELLS", x.drawn(2, 1, 1), 76 - 4 - 11);
        // X is 1622650073: 3 of picture 3.
        Check.due("n 3, CELLS", x.drawn(3, 1, 1), 61 - 3 - 11);
        Check.due("n 3, who", x.drawn(3, 1, 0), 31);
        Check.due("20", x.drawn(20, 7, 0), 0);
        Check.due("60", x.drawn(60, 9, 1), 0);
        Check.due("largest SEED", x.drawn(60, 999999, 0) & ~31, 0);
        Check.due("n 61", x.drawn(61, 1, 0), Check.BAD);
        Check.due("n -1", x.drawn(-1, 1, 0), Check.BAD);
        Check.due("SEED 0", x.drawn(1, 0, 0), Check.BAD);
        Check.due("SEED 1000000", x.drawn(1, 1000000, 0), Check.BAD);
        Check.due("what 2", x.drawn(1, 1, 2), Check.BAD);
        Check.due("what -1", x.drawn(1, 1, -1), Check.BAD);
        PortraitYears one = Check.told("g1,1;w0,0;s1,60,0;");
        Check.due("just one painted", one.drawn(3, 1, 1), 60 - 2 - 4 - 3);
        PortraitYears empty = Check.told("g1,1;w1,1;");
        Check.due("none painted, who", empty.drawn(60, 5, 0), 0);
        Check.due("none painted, CELLS", empty.drawn(60, 5, 1), 0);
        x.years(3);
        // YEARS go on from YEAR 3, in which the unsigned one does not fade, while it does in YEAR 4.
        Check.due("from YEAR 3", x.drawn(1, 1, 1), 11 + 18 + 9 + 13 + 5 - 2 - 11);
        Check.due("from YEAR 3, two", x.drawn(2, 1, 1), 43 - 4 - 14);
    }

    private static void nothingChanges() {
        PortraitYears x = Check.told(Check.FIVE);
        x.years(1);
        Check.fill(x, 0, 1, 2, 3);
        x.remains(0, 60);
        x.lives(60);
        x.dies(0);
        x.first(0);
        x.hanging(9, 0);
        x.save(31, 9);
        x.dark(60, 0);
        for (int what = 0; what < 4; what++) {
            x.fits(0, 0, 0, 3, what);
        }
        x.thieves(1, 60, 5, 0);
        x.drawn(60, 5, 0);
        int[] cells = {17, 26, 9, 21, 5};
        int[] walls = {0, 0, 2, 1, 1};
        int[] fades = {3, 4, 0, 4, 0};
        for (int p = 0; p < 5; p++) {
            Check.due("CELLS of " + p, x.picture(p, 1), cells[p]);
            Check.due("WALL of " + p, x.picture(p, 2), walls[p]);
            Check.due("FADES " + p, x.picture(p, 4), fades[p]);
            Check.due("KIND of " + p, x.kind(p), p + 1);
        }
        Check.due("YEAR", x.count(3), 1);
        Check.due("PURSE", x.count(4), 30);
        Check.due("ACTS", x.count(6), 1);
        Check.due("LIGHT", x.wall(2, 0), 9);
    }
}
