/** What is FORETOLD: part 3 as far as DARK, promises 16 to 22. */
final class ForetoldEdges extends Check {
    private static final int[] NO_YEARS_AHEAD = {LEAST, -1, 61, LARGEST};
    private static final int[] NO_PICTURES = {LEAST, -1, 5, LARGEST};
    private static final int[] NO_WHATS = {LEAST, -1, 2, LARGEST};

    static void all() {
        yearsAhead();
        dies();
        first();
        hanging();
        hangingTies();
        hangingOfTheDead();
        save();
        saveNone();
        dark();
        darkTies();
        remains();
        lives();
        diesAndFirst();
        hangingCall();
        saveCall();
        darkCall();
    }

    private static void yearsAhead() {
        term(3, "all hung as they are, d YEARS from now (0 to 60). CELLS of one; who LIVES (bits).");
        PortraitYears x = told(FIVE);
        for (int p = 0; p < 5; p++) {
            due("remains(" + p + ", 0)", x.remains(p, 0), x.picture(p, 1));
        }
        due("lives(0)", x.lives(0), 31);
        due("lives(60)", x.lives(60), 16);
        due("remains(4, 60)", x.remains(4, 60), 5);
        due("remains(4, 61)", x.remains(4, 61), BAD);
        due("lives(61)", x.lives(61), BAD);
        for (int d = 0; d <= 60; d += 4) {
            PortraitYears old = told(FIVE);
            for (int passed = 0; passed < d; passed += 4) {
                old.years(4);
            }
            due("lives(" + d + ")", x.lives(d), old.count(5));
            for (int p = 0; p < 5; p++) {
                due("remains(" + p + ", " + d + ")", x.remains(p, d), old.picture(p, 1));
            }
        }
        x.hang(0, 2);
        due("hung elsewhere", x.remains(0, 2), 20 - 2 * 4);
        PortraitYears late = told("g1,1;w0,0;u7,60,0;");
        for (int i = 0; i < 41; i++) {
            late.years(24);
        }
        late.years(15);
        due("YEAR", late.count(3), 999);
        late = told("g1,1;w0,0;u9,60,0;");
        for (int i = 0; i < 20; i++) {
            late.years(24);
        }
        due("CELLS in YEAR 480", late.picture(0, 1), 6);
        // SKILL 9 divides 486, 495 and so on.
        due("6 on", late.remains(0, 6), 6);
        due("7 on", late.remains(0, 7), 5);
        due("60 on", late.remains(0, 60), 0);
    }

    private static void dies() {
        term(3, "DIES: behind how many YEARS (0: DEAD now; to 99) first; NONE.");
        PortraitYears x = told(FIVE);
        int[] due = {7, 8, 13, 7, NONE};
        for (int p = 0; p < 5; p++) {
            due("dies(" + p + ")", x.dies(p), due[p]);
        }
        x.deed(4, 5);
        due("DEAD now", x.dies(4), 0);
        PortraitYears slow = told("g5,0;w1,1;u9,11,0;u9,12,0;o9,60,0;o1,2,0;o1,3,0;");
        due("behind 91", slow.dies(0), 91);
        due("behind 100", slow.dies(1), NONE);
        due("behind 60", slow.dies(2), 60);
        due("behind 1", slow.dies(3), 1);
        due("behind 2", slow.dies(4), 2);
        slow.years(1);
        due("behind 99", slow.dies(1), 99);
        due("DEAD now", slow.dies(3), 0);
        due("the first YEAR of them", slow.dies(4), 1);
    }

    private static void first() {
        term(3, "FIRST to die of those who LIVE now: of several the least, who; behind how many YEARS (1 to 99); NONE.");
        PortraitYears x = told(FIVE);
        due("of two the least", x.first(0), 0);
        due("when", x.first(1), 7);
        x.deed(0, 60);
        due("but the DEAD", x.first(0), 3);
        due("when", x.first(1), 7);
        x.deed(2, 11);
        due("one CELL", x.first(0), 2);
        due("behind 1", x.first(1), 1);
        PortraitYears slow = told("g5,0;w1,1;s1,1,0;u9,12,0;");
        due("none to 99, who", slow.first(0), NONE);
        due("none to 99, when", slow.first(1), NONE);
        slow.years(1);
        due("behind 99, who", slow.first(0), 1);
        due("behind 99, when", slow.first(1), 99);
        PortraitYears shades = told("g5,0;w1,1;s1,1,0;");
        due("shades, who", shades.first(0), NONE);
        due("shades, when", shades.first(1), NONE);
        shades.deed(0, 1);
        due("all DEAD, who", shades.first(0), NONE);
        due("all DEAD, when", shades.first(1), NONE);
        due("none painted, who", told("g5,0;w1,1;").first(0), NONE);
        due("none painted, when", told("g5,0;w1,1;").first(1), NONE);
    }

    private static void hangs(PortraitYears x, int d, int living, int cells, int... walls) {
        due("hanging(" + d + ", -1)", x.hanging(d, -1), living);
        due("hanging(" + d + ", -2)", x.hanging(d, -2), cells);
        for (int p = 0; p < 5; p++) {
            due("hanging(" + d + ", " + p + ")", x.hanging(d, p), p < walls.length ? walls[p] : NONE);
        }
    }

    private static void hanging() {
        term(3, "by which most LIVE behind d YEARS, of such most CELLS together are left then,");
        PortraitYears x = told(FIVE);
        hangs(x, 1, 5, 87, 1, 1, 0, 2, 0);
        hangs(x, 9, 5, 59, 1, 1, 0, 2, 0);
        hangs(x, 30, 3, 34, 0, 0, 1, 2, 1);
        // The copy in the dark leaves 38 CELLS of 41 and the other DEAD; the other way 19 are left of two.
        hangs(told("g1,0;w9,0;w0,0;c1,41,1;o1,20,0;"), 2, 2, 19, 0, 1);
        hangs(told("g1,0;w9,0;w0,0;c1,41,1;o1,21,0;"), 2, 2, 38, 1, 0);
        // Just one can be in the dark, and both LIVE either way: 40 less for a copy, 20 less for one in oil.
        hangs(told("g1,0;w9,0;w0,0;c1,60,0;o1,60,1;"), 1, 2, 20 + 18 + 70, 1, 0);
        hangs(told("g1,0;w0,9;w9,0;p9,60,0;p9,3,1;"), 1, 1 + 1, 56 + 3, 0, 1);
        hangs(told("g1,1;w1,1;"), 60, 0, 0);
        hangs(told("g1,1;w9,9;o1,1,0;"), 60, 0, 0, 0);
    }

    private static void hangingTies() {
        term(3, "of several the first (by WALLS, picture by picture): how many LIVE; CELLS together; the WALL of the k-th.");
        hangs(told(FIVE), 0, 5, 92, 0, 0, 1, 1, 2);
        hangs(told("g5,0;w3,3;w3,3;s1,9,1;s1,9,1;s1,9,1;"), 60, 3, 27, 0, 0, 0);
        hangs(told("g1,0;w3,3;w3,3;w3,3;s1,9,2;s1,9,1;s1,9,0;"), 60, 3, 27, 0, 1, 2);
        hangs(told("g1,0;w3,3;w3,3;w3,3;w3,3;s1,9,3;s1,9,2;"), 5, 2, 18, 0, 1);
        hangs(told("g1,0;w0,0;w9,9;w0,0;o1,9,1;p1,9,0;"), 1, 2, 17, 0, 2);
        String all = "g2,0;" + "w3,3;".repeat(4) + "s1,9,3;s1,9,3;s1,9,2;s1,9,2;s1,9,1;";
        hangs(told(all), 60, 5, 45, 0, 0, 1, 1, 2);
    }

    private static void hangingOfTheDead() {
        term(3, "HANGING for d: WALLS for all PICTURES from now on (those of the DEAD, too; ROOM on each WALL at most),");
        PortraitYears x = told("g1,0;w9,0;w0,0;o1,9,0;o1,9,1;");
        x.deed(0, 60);
        hangs(x, 2, 1, 7, 0, 1);
        x.undo();
        x.deed(1, 60);
        hangs(x, 2, 1, 7, 1, 0);
        x.deed(0, 60);
        hangs(x, 0, 0, 0, 0, 1);
        PortraitYears two = told("g2,0;w0,0;w9,0;o1,60,1;o1,60,1;c1,60,0;");
        hangs(two, 1, 3, 59 + 58 + 50, 0, 1, 0);
        PortraitYears three = told("g3,0;w0,0;w9,0;o1,60,1;o1,60,1;c1,60,0;");
        hangs(three, 1, 3, 59 + 58 + 59, 0, 0, 0);
        PortraitYears full = told("g1,0;w0,0;o1,60,0;");
        hangs(full, 1, 1, 59, 0);
        // From now on, by the YEAR as it is: SKILL 2 does not divide YEAR 1.
        PortraitYears odd = told("g1,0;w9,0;w0,0;u2,60,1;o1,60,0;");
        hangs(odd, 1, 2, 59 + 55, 0, 1);
        odd.years(1);
        due("CELLS", odd.picture(0, 1) + odd.picture(1, 1), 59 + 50);
        hangs(odd, 1, 2, 59 + 49, 0, 1);
        hangs(odd, 0, 2, 109, 0, 1);
    }

    private static void save() {
        term(3, "SAVE for told PICTURES, d: the fewest CELLS that must be restored now, in all, so that all of these LIVE behind d YEARS;");
        PortraitYears x = told(FIVE);
        due("none told", x.save(0, 60), 0);
        due("now", x.save(31, 0), 0);
        due("as it is", x.save(31, 6), 0);
        due("one CELL of each", x.save(9, 7), 2 + 4);
        due("one", x.save(1, 9), 8);
        due("two", x.save(3, 9), 15);
        due("three, one of which has enough", x.save(7, 9), 15);
        due("all", x.save(31, 9), 27);
        due("the last alone", x.save(16, 60), 0);
        PortraitYears y = told("g1,99;w4,0;o1,20,0;");
        due("20 less 20 is DEAD", y.save(1, 4), 1);
        due("20 less 15", y.save(1, 3), 0);
        y.restore(0, 1);
        due("one was restored", y.save(1, 4), 0);
        due("LIVES then", y.lives(4), 1);
    }

    private static void saveNone() {
        term(3, "NONE: no so many can be (60 at most are on each; those DEAD now can not be; PURSE is not enough).");
        PortraitYears x = told("g5,30;w1,0;o2,30,0;o2,31,0;s1,9,0;");
        due("60 on it, PURSE just enough", x.save(1, 59), 30);
        due("61 on it", x.save(1, 60), NONE);
        due("both, PURSE just enough", x.save(3, 44), 29);
        due("both, PURSE is not enough", x.save(3, 45), NONE);
        due("just one of them", x.save(1, 45), 16);
        x.restore(1, 1);
        due("PURSE is 29 now", x.save(1, 58), 29);
        due("PURSE is 29 now", x.save(1, 59), NONE);
        x.deed(2, 9);
        due("DEAD now", x.save(4, 0), NONE);
        due("DEAD now, and another", x.save(5, 0), NONE);
        due("another alone", x.save(1, 0), 0);
        PortraitYears rich = told("g5,99;w9,0;c1,60,0;c1,1,0;");
        due("20 less", rich.save(1, 2), 0);
        due("60 less", rich.save(1, 3), NONE);
        due("41 on it", rich.save(2, 2), 40);
        PortraitYears poor = told("g5,0;w9,0;o1,11,0;o1,10,0;");
        due("no PENNY is needed", poor.save(1, 1), 0);
        due("one PENNY is needed", poor.save(2, 1), NONE);
    }

    private static void dark() {
        term(3, "DARK for d: the WALL by which, were its LIGHT 0 from now on, most LIVE behind d YEARS,");
        PortraitYears x = told(FIVE);
        due("30 on", x.dark(30, 0), 2);
        due("30 on, so many", x.dark(30, 1), 2);
        due("9 on", x.dark(9, 0), 0);
        due("9 on, so many", x.dark(9, 1), 4);
        PortraitYears y = told("g1,0;w1,0;w2,9;o1,10,0;o1,10,1;");
        due("LIGHT 0, one CELL left", y.dark(9, 1), 1);
        due("LIGHT 0, no CELL left", y.dark(10, 1), 0);
        PortraitYears z = told("g1,0;w9,9;w9,9;s1,1,0;o1,6,1;");
        due("the second", z.dark(5, 0), 1);
        due("both", z.dark(5, 1), 2);
        due("DAMP stays", told("g1,0;w9,9;p1,4,0;").dark(1, 1), 0);
        PortraitYears last = told("g1,0;w0,0;w0,0;w0,0;w9,0;c1,5,3;s1,1,0;");
        due("the last", last.dark(2, 0), 3);
        due("a copy by 2", last.dark(2, 1), 2);
        due("a copy by 2, DEAD", last.dark(3, 1), 1);
    }

    private static void darkTies() {
        term(3, "of several the first: which; how many.");
        PortraitYears x = told(FIVE);
        due("all LIVE by each", x.dark(1, 0), 0);
        due("all", x.dark(1, 1), 5);
        due("now", x.dark(0, 0), 0);
        due("all, now", x.dark(0, 1), 5);
        PortraitYears y = told("g1,0;w9,0;w9,0;w9,0;o1,3,2;o1,3,1;s1,1,0;");
        due("of 1 and 2", y.dark(2, 0), 1);
        due("two", y.dark(2, 1), 2);
        due("nobody by any", told("g1,0;w9,0;w9,0;o1,1,1;").dark(9, 0), 0);
        due("none painted, which", told("g1,1;w1,1;w2,2;").dark(60, 0), 0);
        due("none painted, how many", told("g1,1;w1,1;w2,2;").dark(60, 1), 0);
    }

    private static void remains() {
        promise(16, "CELLS.");
        PortraitYears x = told(FIVE);
        int[] behindNine = {0, 0, 3, 0, 5};
        for (int p = 0; p < 5; p++) {
            due("remains(" + p + ", 9)", x.remains(p, 9), behindNine[p]);
        }
        due("now", x.remains(0, 0), 20);
        due("the last CELLS", x.remains(0, 6), 2);
        due("0 at least", x.remains(0, 7), 0);
        x.years(3);
        due("unsigned, YEAR 3, 1 on", x.remains(2, 1), 9);
        due("unsigned, YEAR 3, 2 on", x.remains(2, 2), 6);
        due("unsigned, YEAR 3, 5 on", x.remains(2, 5), 6);
        due("unsigned, YEAR 3, 6 on", x.remains(2, 6), 3);
        due("unsigned, every YEAR", told("g1,0;w2,0;u1,60,0;").remains(0, 7), 60 - 7 * 3);

        promise(16, "BAD.");
        for (int no : NO_YEARS_AHEAD) {
            due("d is " + no, x.remains(0, no), BAD);
        }
        for (int no : NO_PICTURES) {
            due("picture " + no, x.remains(no, 0), BAD);
        }
        due("no HOUSE", new PortraitYears().remains(0, 0), BAD);
    }

    private static void lives() {
        promise(17, "LIVES.");
        PortraitYears x = told(FIVE);
        int[][] due = {{0, 31}, {6, 31}, {7, 22}, {8, 20}, {12, 20}, {13, 16}, {60, 16}};
        for (int[] pair : due) {
            due("lives(" + pair[0] + ")", x.lives(pair[0]), pair[1]);
        }
        due("none painted", told("g1,1;w1,1;").lives(3), 0);

        promise(17, "BAD;");
        for (int no : NO_YEARS_AHEAD) {
            due("d is " + no, x.lives(no), BAD);
        }

        promise(17, "STATE: no HOUSE (ahead of BAD).");
        due("d is 0", new PortraitYears().lives(0), STATE);
        for (int no : NO_YEARS_AHEAD) {
            due("d is " + no, new PortraitYears().lives(no), STATE);
        }
    }

    private static void diesAndFirst() {
        PortraitYears x = told(FIVE);
        promise(18, "DIES; NONE.");
        due("7", x.dies(0), 7);
        due("NONE", x.dies(4), NONE);

        promise(18, "BAD.");
        for (int no : NO_PICTURES) {
            due("picture " + no, x.dies(no), BAD);
        }
        due("no HOUSE", new PortraitYears().dies(0), BAD);

        promise(19, "FIRST: who (what = 0), behind how many YEARS (1); NONE.");
        x.hang(1, 2);
        due("who", x.first(0), 0);
        due("when", x.first(1), 7);
        x.restore(0, 30);
        due("who then", x.first(0), 3);
        due("NONE", told("g1,1;w9,9;s1,1,0;").first(0), NONE);

        promise(19, "BAD;");
        for (int no : NO_WHATS) {
            due("what is " + no, x.first(no), BAD);
            due("what is " + no + ", none painted", told("g5,0;w1,1;").first(no), BAD);
        }

        promise(19, "STATE: no HOUSE (ahead of BAD).");
        due("what is 0", new PortraitYears().first(0), STATE);
        for (int no : NO_WHATS) {
            due("what is " + no, new PortraitYears().first(no), STATE);
        }
    }

    private static void hangingCall() {
        promise(20, "HANGING: how many LIVE (k = -1), CELLS together (k = -2), the WALL of the k-th (0 on; NONE: no such PICTURE).");
        PortraitYears x = told("g1,0;w9,0;w0,0;c1,41,1;o1,20,0;");
        due("how many LIVE", x.hanging(2, -1), 2);
        due("CELLS together", x.hanging(2, -2), 19);
        due("of 0", x.hanging(2, 0), 0);
        due("of 1", x.hanging(2, 1), 1);
        for (int k = 2; k <= 4; k++) {
            due("of " + k, x.hanging(2, k), NONE);
        }
        due("the last of five", told(FIVE).hanging(0, 4), 2);
        due("the first of none", told("g1,1;w1,1;").hanging(0, 0), NONE);

        promise(20, "BAD: k not -2 to 4, too;");
        int[] noK = {LEAST, -3, 5, LARGEST};
        for (int no : noK) {
            due("k is " + no, x.hanging(0, no), BAD);
        }
        for (int no : NO_YEARS_AHEAD) {
            due("d is " + no, x.hanging(no, -1), BAD);
            due("d is " + no + ", no such PICTURE", x.hanging(no, 4), BAD);
        }
        due("d is 60", x.hanging(60, -1), 0);

        promise(20, "STATE: no HOUSE (ahead of BAD).");
        due("d is 0", new PortraitYears().hanging(0, 0), STATE);
        due("d is 61", new PortraitYears().hanging(61, 0), STATE);
        for (int no : noK) {
            due("k is " + no, new PortraitYears().hanging(0, no), STATE);
        }
    }

    private static void saveCall() {
        PortraitYears x = told("g5,30;w1,0;o2,30,0;o2,31,0;");
        promise(21, "SAVE; NONE.");
        due("both", x.save(3, 44), 29);
        due("both, no more", x.save(3, 45), NONE);

        promise(21, "BAD;");
        int[] noSets = {LEAST, -1, 4, 7, 8, 32, LARGEST};
        for (int no : noSets) {
            due("bits " + no, x.save(no, 0), BAD);
        }
        for (int no : NO_YEARS_AHEAD) {
            due("d is " + no, x.save(0, no), BAD);
            due("d is " + no + ", both", x.save(3, no), BAD);
        }
        due("bits 31 of five", told(FIVE).save(31, 0), 0);
        due("bits 32 of five", told(FIVE).save(32, 0), BAD);
        due("none of none", told("g1,1;w1,1;").save(0, 60), 0);
        due("bits 1 of none", told("g1,1;w1,1;").save(1, 60), BAD);

        promise(21, "STATE: no HOUSE (ahead of BAD).");
        due("bits 0", new PortraitYears().save(0, 0), STATE);
        due("d is 61", new PortraitYears().save(0, 61), STATE);
        for (int no : noSets) {
            due("bits " + no, new PortraitYears().save(no, 0), STATE);
        }
    }

    private static void darkCall() {
        PortraitYears x = told(FIVE);
        promise(22, "DARK: which (what = 0), how many (1).");
        due("which", x.dark(30, 0), 2);
        due("how many", x.dark(30, 1), 2);
        due("60 on", x.dark(60, 1), 1);

        promise(22, "BAD;");
        for (int no : NO_WHATS) {
            due("what is " + no, x.dark(0, no), BAD);
        }
        for (int no : NO_YEARS_AHEAD) {
            due("d is " + no, x.dark(no, 0), BAD);
            due("d is " + no, x.dark(no, 1), BAD);
        }

        promise(22, "STATE: no HOUSE (ahead of BAD).");
        due("d is 0", new PortraitYears().dark(0, 0), STATE);
        due("d is 61", new PortraitYears().dark(61, 0), STATE);
        for (int no : NO_WHATS) {
            due("what is " + no, new PortraitYears().dark(0, no), STATE);
        }
    }
}
