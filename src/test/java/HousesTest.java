/** Promises 1, 6 to 8, 14, 15 and 32: a new object, THE TAPE, the HOUSE that is read, what is asked of it. */
public final class HousesTest {
    public static void main(String[] args) {
        promise1newObject();
        promise6feed();
        promise7house();
        promise7law();
        promise7walls();
        promise7pictures();
        promise7numbers();
        promise7stays();
        promise8fault();
        promise14picture();
        promise15wall();
        promise32count();
        Check.end();
    }

    private static void promise1newObject() {
        PortraitYears x = new PortraitYears();
        for (int what = 0; what <= 7; what++) {
            Check.due("count(" + what + ")", x.count(what), 0);
        }
        Check.due("years", x.years(1), Check.STATE);
        Check.due("years ahead of BAD", x.years(0), Check.STATE);
        Check.due("lives ahead of BAD", x.lives(-1), Check.STATE);
        Check.due("first ahead of BAD", x.first(2), Check.STATE);
        Check.due("hanging ahead of BAD", x.hanging(-1, 9), Check.STATE);
        Check.due("save ahead of BAD", x.save(-1, -1), Check.STATE);
        Check.due("dark ahead of BAD", x.dark(-1, 9), Check.STATE);
        Check.due("thieves ahead of BAD", x.thieves(-1, -1, -1, -1), Check.STATE);
        Check.due("drawn ahead of BAD", x.drawn(-1, 0, 9), Check.STATE);
        Check.due("undo", x.undo(), Check.STATE);
        Check.due("image", x.image(0), Check.STATE);
        Check.due("recall", x.recall(1), Check.STATE);
        Check.due("picture", x.picture(0, 0), Check.BAD);
        Check.due("wall", x.wall(0, 0), Check.BAD);
        Check.due("fault", x.fault(), 0);
        Check.due("status", x.status(), 0);
        Check.due("trace", x.trace(0), Check.NONE);
    }

    private static void promise6feed() {
        PortraitYears x = new PortraitYears();
        Check.due("feed -1", x.feed(-1), Check.BAD);
        Check.due("feed 256", x.feed(256), Check.BAD);
        Check.due("feed 0", x.feed(0), 1);
        Check.due("feed 255", x.feed(255), 2);
        for (int i = 3; i <= 100; i++) {
            Check.due("feed " + i, x.feed('a'), i);
        }
        Check.due("feed 101", x.feed('a'), Check.FULL);
        Check.due("BAD ahead of FULL", x.feed(256), Check.BAD);
        Check.due("100 there", x.count(7), 100);
        x.house();
        Check.due("empty then", x.count(7), 0);
        Check.due("feed again", x.feed('a'), 1);
    }

    private static void fault(String text, int place, int number) {
        PortraitYears x = new PortraitYears();
        Check.due(text, Check.read(x, text), -1000100 - place);
        Check.due("fault of " + text, x.fault(), number);
        Check.due("walls of " + text, x.count(1), 0);
        Check.due("tape of " + text, x.count(7), 0);
        Check.due("state of " + text, x.years(1), Check.STATE);
    }

    private static void promise7house() {
        Check.due("five", Check.read(new PortraitYears(), Check.FIVE), 5);
        Check.due("no picture", Check.read(new PortraitYears(), "g1,0;w0,0;"), 0);
        Check.due("two figures", Check.read(new PortraitYears(), "g01,00;w09,09;o09,01,00;"), 1);
        fault("", 0, 1);
        fault("G", 0, 1);
        fault(" g1,1;", 0, 1);
        fault("g 1,1;", 1, 1);
        fault("g1,1;w1,1; ", 10, 1);
        fault("g1,1;w1,1;" + (char) 200, 10, 1);
        fault("g1,1;w1,1;g", 10, 1);
        fault("g1,1;w1,1;,", 10, 1);
        fault("g1,1;w1,1;5", 10, 1);
        fault("a".repeat(100), 0, 1);
        String full = "g05,99;" + "w09,09;".repeat(4) + "o09,60,01;".repeat(5);
        Check.due("85 bytes", Check.read(new PortraitYears(), full), 5);
        fault(full + "o", full.length(), 3);
    }

    private static void promise7law() {
        Check.due("g5,99", Check.read(new PortraitYears(), "g5,99;w0,0;"), 0);
        fault("g", 1, 1);
        fault("g,", 1, 1);
        fault("g0,1;w1,1;", 1, 2);
        fault("g6,1;w1,1;", 1, 2);
        fault("g99,", 1, 2);
        fault("g100,1;", 1, 1);
        fault("g001,1;", 1, 1);
        fault("g1;", 2, 1);
        fault("g1,", 3, 1);
        fault("g1,100;", 3, 1);
        fault("g1,5,", 4, 1);
        fault("g1,5", 4, 1);
        fault("g1,5;", 5, 1);
        fault("w1,1;", 0, 1);
        fault("gg", 1, 1);
    }

    private static void promise7walls() {
        fault("g1,5;o1,1,0;", 5, 1);
        fault("g1,5;w10,1;", 6, 2);
        fault("g1,5;w1,10;", 8, 2);
        fault("g1,5;w1,111;", 8, 1);
        fault("g1,5;w1,1", 9, 1);
        fault("g1,5;w,1;", 6, 1);
        fault("g1,5;w1;", 7, 1);
        fault("g1,5;w1,1,", 9, 1);
        Check.due("four walls", Check.read(new PortraitYears(), "g1,5;" + "w1,1;".repeat(4)), 0);
        fault("g1,5;" + "w1,1;".repeat(5), 25, 3);
        fault("g1,5;" + "w1,1;".repeat(4) + "w", 25, 3);
        fault("g1,5;w1,1;o1,1,0;w1,1;", 17, 1);
        fault("g1,5;" + "w1,1;".repeat(4) + "o1,1,0;w", 32, 1);
    }

    private static void promise7pictures() {
        String walls = "g2,5;w1,1;w2,2;";
        fault(walls + "x1,1,0;", 15, 1);
        fault(walls + "o0,1,0;", 16, 2);
        fault(walls + "o10,1,0;", 16, 2);
        fault(walls + "o100,1,0;", 16, 1);
        fault(walls + "o1;", 17, 1);
        fault(walls + "o1,0,0;", 18, 2);
        fault(walls + "o1,61,0;", 18, 2);
        fault(walls + "o1,600,0;", 18, 1);
        fault(walls + "o1,60;", 20, 1);
        fault(walls + "o1,60,2;", 21, 2);
        fault(walls + "o1,60,99", 21, 2);
        fault(walls + "o1,60,;", 21, 1);
        fault(walls + "o1,60,0", 22, 1);
        fault(walls + "o1,60,0,", 22, 1);
        fault(walls + "o1,1,0;o1,1,0;o1,1,0;", 34, 2);
        fault(walls + "o1,1,1;c1,1,1;u1,1,1", 34, 2);
        fault("g1,5;w1,1;o1,1,0;s1,1,0;", 22, 2);
        String five = "g5,5;w1,1;" + "s1,1,0;".repeat(5);
        Check.due("five of them", Check.read(new PortraitYears(), five), 5);
        fault(five + "p", 45, 3);
        fault(five + "o1,1,0;", 45, 3);
        fault(five + "w1,1;", 45, 1);
        fault(five + "x", 45, 1);
        fault(five + ";", 45, 1);
    }

    private static void promise7numbers() {
        PortraitYears x = Check.told("g3,07;w9,0;w0,9;u09,01,1;o1,60,0;");
        Check.due("PURSE", x.count(4), 7);
        Check.due("LIGHT", x.wall(0, 0), 9);
        Check.due("DAMP", x.wall(1, 1), 9);
        Check.due("SKILL", x.picture(0, 0), 9);
        Check.due("CELLS", x.picture(0, 1), 1);
        Check.due("WALL", x.picture(0, 2), 1);
        Check.due("CELLS of 1", x.picture(1, 1), 60);
    }

    private static void promise7stays() {
        PortraitYears x = Check.told(Check.FIVE);
        x.row(0, 0, 3);
        x.image(0);
        x.years(3);
        Check.due("a FAULT", Check.read(x, "g1,1;w1,"), -1000108);
        Check.due("YEAR stays", x.count(3), 3);
        Check.due("ACTS stay", x.count(6), 3);
        Check.due("PICTURES stay", x.count(2), 5);
        Check.due("WALLS stay", x.count(1), 3);
        x.ask(0, 1);
        Check.due("another HOUSE", Check.read(x, "g1,7;w1,2;o2,9,0;"), 1);
        Check.due("YEAR 0", x.count(3), 0);
        Check.due("no ACT", x.count(6), 0);
        Check.due("undo", x.undo(), Check.STATE);
        Check.due("one WALL", x.count(1), 1);
        Check.due("one PICTURE", x.count(2), 1);
        Check.due("no second", x.picture(1, 0), Check.BAD);
        Check.due("PURSE", x.count(4), 7);
        Check.due("ROWS stay", x.count(0), 1);
        Check.due("TRACE stays", x.trace(0), 21);
        Check.due("IMAGES stay", x.recall(0), 1);
        Check.due("as it was", x.count(2), 5);
    }

    private static void promise8fault() {
        PortraitYears x = new PortraitYears();
        Check.due("before one", x.fault(), 0);
        Check.read(x, "g0,");
        Check.due("2", x.fault(), 2);
        Check.read(x, Check.FIVE);
        Check.due("the latest stays", x.fault(), 2);
        Check.read(x, "g1,5;" + "w1,1;".repeat(5));
        Check.due("3", x.fault(), 3);
        Check.read(x, "x");
        Check.due("1", x.fault(), 1);
    }

    private static void promise14picture() {
        PortraitYears x = Check.told(Check.FIVE);
        int[][] due = {{3, 20, 0, 1, 3}, {5, 30, 0, 1, 4}, {4, 12, 2, 1, 3}, {2, 25, 1, 1, 4}, {1, 5, 1, 1, 0}};
        for (int p = 0; p < 5; p++) {
            for (int what = 0; what < 5; what++) {
                Check.due("picture(" + p + ", " + what + ")", x.picture(p, what), due[p][what]);
            }
        }
        Check.due("picture -1", x.picture(-1, 0), Check.BAD);
        Check.due("picture 5", x.picture(5, 0), Check.BAD);
        Check.due("what -1", x.picture(0, -1), Check.BAD);
        Check.due("what 5", x.picture(0, 5), Check.BAD);
        x.years(1);
        Check.due("unsigned in YEAR 1", x.picture(2, 4), 0);
        x.years(3);
        Check.due("unsigned in YEAR 4", x.picture(2, 4), 3);
        x.deed(0, 60);
        Check.due("DEAD", x.picture(0, 3), 0);
        Check.due("no CELLS", x.picture(0, 1), 0);
        Check.due("the DEAD hang as they did", x.picture(0, 2), 0);
        Check.due("FADES, not cut at 0", x.picture(0, 4), 3);
        x.deed(1, 13);
        Check.due("one CELL", x.picture(1, 1), 1);
        Check.due("LIVES by one CELL", x.picture(1, 3), 1);
        Check.due("LIVES by one CELL, bits", x.count(5), 30);
        Check.due("FADES by more", x.picture(1, 4), 4);
    }

    private static void promise15wall() {
        PortraitYears x = Check.told(Check.FIVE);
        int[][] due = {{6, 3, 3}, {0, 9, 24}, {9, 0, 4}};
        for (int w = 0; w < 3; w++) {
            for (int what = 0; what < 3; what++) {
                Check.due("wall(" + w + ", " + what + ")", x.wall(w, what), due[w][what]);
            }
        }
        Check.due("wall -1", x.wall(-1, 0), Check.BAD);
        Check.due("wall 3", x.wall(3, 0), Check.BAD);
        Check.due("what -1", x.wall(0, -1), Check.BAD);
        Check.due("what 3", x.wall(0, 3), Check.BAD);
        x.deed(2, 60);
        Check.due("the DEAD hang there", x.wall(2, 2), 4);
        x.hang(0, 2);
        Check.due("one came", x.wall(2, 2), 5);
        Check.due("one went", x.wall(0, 2), 2);
    }

    private static void promise32count() {
        PortraitYears x = Check.told(Check.FIVE);
        x.row(2, 0, 1);
        x.row(5, 1, 0);
        x.feed('g');
        x.years(2);
        x.restore(0, 4);
        x.deed(3, 60);
        int[] due = {2, 3, 5, 2, 26, 23, 4, 1};
        for (int what = 0; what < 8; what++) {
            Check.due("count(" + what + ")", x.count(what), due[what]);
        }
        Check.due("what -1", x.count(-1), Check.BAD);
        Check.due("what 8", x.count(8), Check.BAD);
        Check.due("what least", x.count(Integer.MIN_VALUE), Check.BAD);
    }
}
