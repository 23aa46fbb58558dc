/** What is guessed: part 3 from the row that tells on, as far as AGES; promises 23 to 25. */
final class GuessedEdges extends Check {
    private static final int[] NO_YEARS_AHEAD = {LEAST, -1, 61, LARGEST};
    private static final int[] NO_WHATS = {LEAST, -1, 2, LARGEST};

    static void all() {
        rowThatTells();
        sorts();
        skills();
        hung();
        done();
        fits();
        fitsRefused();
        thieves();
        thievesCall();
        ages();
        agesOfThePictures();
        drawnCall();
    }

    private static void rowThatTells() {
        term(3, "A row tells CELLS of one behind each of n YEARS (1 to 16) from now on.");
        PortraitYears x = told(FIVE);
        fill(x, 0, 17, 14, 11, 8, 5, 2, 0, 0, 0, 0, 0, 0, 0, 0, 0, 0, 0, 99);
        due("the first ITEM is behind one YEAR", x.fits(0, 0, 0, 1, 0) & 2, 2);
        due("16 YEARS", x.fits(0, 0, 0, 16, 0), 2);
        due("17 YEARS", x.fits(0, 0, 0, 17, 0), BAD);
        due("no YEARS", x.fits(0, 0, 0, 0, 0), BAD);
        fill(x, 1, 20, 17, 14);
        due("the first ITEM is not now", x.fits(0, 1, 0, 3, 0), 0);
        x.set(0, 15, 1);
        due("the 16th is another", x.fits(0, 0, 0, 16, 0), 0);
        due("15 are so", x.fits(0, 0, 0, 15, 0), 2);
        x.years(2);
        due("from now on", x.fits(0, 0, 2, 13, 0), 2);
        due("not from YEAR 0 on", x.fits(0, 0, 0, 13, 0), 0);
    }

    private static void sorts() {
        term(3, "SORTS: KINDS (bits 1 to 5) of it by which it is so.");
        PortraitYears x = told(FIVE);
        fill(x, 0, 17, 14);
        due("oil or unsigned", x.fits(0, 0, 0, 1, 0), 2 | 8);
        due("oil", x.fits(0, 0, 0, 2, 0), 2);
        due("none", x.fits(1, 0, 0, 1, 0), 0);
        fill(x, 1, 14, 8);
        due("a copy", x.fits(0, 1, 0, 2, 0), 4);
        fill(x, 2, 19, 18);
        due("one in pencil, DAMP 3", x.fits(0, 2, 0, 2, 0), 16);
        fill(x, 3, 20);
        due("a shade", x.fits(0, 3, 0, 1, 0), 32);
        x.years(1);
        fill(x, 4, 17, 17, 14);
        due("unsigned, from YEAR 1", x.fits(0, 4, 0, 3, 0), 8);
        due("unsigned or a shade, one YEAR", x.fits(0, 4, 0, 1, 0), 8 | 32);
        PortraitYears still = told("g1,0;w0,1;p1,9,0;");
        fill(still, 0, 9);
        due("pencil without DAMP, or a shade", still.fits(0, 0, 0, 1, 0), 16 | 32);
        x.deed(0, 60);
        fill(x, 5, 0, 0);
        due("DEAD: all", x.fits(0, 5, 0, 2, 0), 62);
    }

    private static void skills() {
        term(3, "SKILLS: SKILL (1 to 9, bits) by which it is so.");
        PortraitYears x = told(FIVE);
        fill(x, 0, 18, 16);
        due("LIGHT 6 by 4, 5, 6", x.fits(0, 0, 0, 2, 1), 16 | 32 | 64);
        fill(x, 0, 19, 18);
        due("LIGHT 6 by 7, 8, 9", x.fits(0, 0, 0, 2, 1), 128 | 256 | 512);
        fill(x, 0, 13);
        due("LIGHT 6 by 1", x.fits(0, 0, 0, 1, 1), 2);
        fill(x, 0, 5, 5, 5);
        due("of a shade, any", x.fits(4, 0, 0, 3, 1), 1022);
        due("of another, none", x.fits(0, 0, 0, 3, 1), 0);
        fill(x, 0, 7, 7);
        due("unsigned by 2", x.fits(2, 0, 0, 2, 1), 4);
        fill(x, 0, 10, 10, 10, 10, 10, 8);
        due("unsigned by 5 to 9", x.fits(2, 0, 0, 5, 1), 32 | 64 | 128 | 256 | 512);
        due("unsigned by 5", x.fits(2, 0, 0, 6, 1), 32);
    }

    private static void hung() {
        term(3, "HUNG: WALLS (bits) by which it is so, ROOM there or not.");
        PortraitYears x = told(FIVE);
        fill(x, 0, 19, 18);
        due("the dark WALL, no ROOM there", x.fits(0, 0, 0, 2, 2), 2);
        due("no ROOM there", x.hang(0, 1), FULL);
        fill(x, 0, 16);
        due("the light WALL, ROOM there", x.fits(0, 0, 0, 1, 2), 4);
        fill(x, 0, 18);
        due("no WALL", x.fits(0, 0, 0, 1, 2), 0);
        fill(x, 0, 17);
        due("where it hangs", x.fits(0, 0, 0, 1, 2), 1);
        fill(x, 0, 24, 23);
        due("one in pencil by DAMP 3", x.fits(3, 0, 0, 2, 2), 1);
        fill(x, 0, 25, 25);
        due("one in pencil by DAMP 0", x.fits(3, 0, 0, 2, 2), 4);
        fill(x, 0, 5);
        due("a shade: all three", x.fits(4, 0, 0, 1, 2), 7);
        PortraitYears four = told("g1,0;w9,0;w9,0;w9,0;w0,0;o1,9,0;");
        fill(four, 0, 8);
        due("the last of four", four.fits(0, 0, 0, 1, 2), 8);
    }

    private static void done() {
        term(3, "DONE: how many CELLS (0 to 29, bits) a deed takes from it now, by which it is so.");
        PortraitYears x = told(FIVE);
        fill(x, 0, 17, 14, 11);
        due("none taken", x.fits(0, 0, 0, 3, 3), 1);
        due("9 taken", x.fits(1, 0, 0, 1, 3), 512);
        fill(x, 0, 0, 0, 0);
        due("17 and more", x.fits(0, 0, 0, 1, 3), (1 << 30) - (1 << 17));
        due("26 and more", x.fits(1, 0, 0, 1, 3), (1 << 30) - (1 << 26));
        fill(x, 0, 1);
        due("25 taken", x.fits(1, 0, 0, 1, 3), 1 << 25);
        due("16 taken", x.fits(0, 0, 0, 1, 3), 1 << 16);
        PortraitYears shade = told("g1,1;w0,0;s1,60,0;");
        fill(shade, 0, 31, 31);
        due("29 taken", shade.fits(0, 0, 0, 2, 3), 1 << 29);
        fill(shade, 0, 30, 30);
        due("30 is beyond", shade.fits(0, 0, 0, 2, 3), 0);
        fill(shade, 0, 60);
        due("none taken", shade.fits(0, 0, 0, 1, 3), 1);
        fill(shade, 0, 61);
        due("more than there are", shade.fits(0, 0, 0, 1, 3), 0);
        fill(shade, 0, -1);
        due("fewer than none", shade.fits(0, 0, 0, 1, 3), 0);
        shade.deed(0, 60);
        fill(shade, 0, 0);
        due("DEAD: any", shade.fits(0, 0, 0, 1, 3), (1 << 30) - 1);
        due("status", shade.status(), 0);
    }

    private static void fits() {
        promise(23, "SORTS (what = 0), SKILLS (1), HUNG (2), DONE (3), n ITEMS of a ROW from i on.");
        PortraitYears x = told(FIVE);
        x.row(6, 0, 40);
        x.row(7, 1, 40);
        for (int row = 6; row <= 7; row++) {
            x.set(row, 38, 17);
            x.set(row, 39, 14);
            due("SORTS, the last two", x.fits(0, row, 38, 2, 0), 2);
            due("SKILLS, the last two", x.fits(0, row, 38, 2, 1), 8);
            due("HUNG, the last two", x.fits(0, row, 38, 2, 2), 1);
            due("DONE, the last two", x.fits(0, row, 38, 2, 3), 1);
            due("16 to the end", x.fits(0, row, 24, 16, 0), 0);
        }
        x.deed(3, 25);
        due("the first 16", x.fits(3, 6, 0, 16, 0), 62);
        due("a byte of 256 and 3", x.set(6, 0, 259), 3);
        due("the first 16 are others", x.fits(3, 6, 0, 16, 0), 0);
    }

    private static void fitsRefused() {
        PortraitYears x = told(FIVE);
        x.row(0, 1, 20);
        promise(23, "BAD: PICTURE, ROW, n, what;");
        int[] noPictures = {LEAST, -1, 5, LARGEST};
        int[] noRows = {LEAST, -1, 8, LARGEST};
        int[] noNumbers = {LEAST, -1, 0, 17, LARGEST};
        int[] noWhats = {LEAST, -1, 4, LARGEST};
        for (int row = 0; row <= 1; row++) {
            for (int no : noPictures) {
                due("picture " + no, x.fits(no, row, 0, 1, 0), BAD);
            }
            for (int no : noNumbers) {
                due("n is " + no, x.fits(0, row, 0, no, 0), BAD);
                due("n is " + no + ", no such place", x.fits(0, row, -1, no, 0), BAD);
            }
            for (int no : noWhats) {
                due("what is " + no, x.fits(0, row, 0, 1, no), BAD);
            }
        }
        for (int no : noRows) {
            due("row " + no, x.fits(0, no, 0, 1, 0), BAD);
        }
        PortraitYears none = new PortraitYears();
        due("no HOUSE, a ROW is missing", none.fits(0, 0, 0, 1, 0), BAD);
        due("status", none.status(), 0);

        promise(23, "NULL;");
        due("missing", x.fits(0, 1, 0, 1, 0), NULL);
        due("missing, no such place", x.fits(0, 1, -1, 1, 0), NULL);
        due("missing, 16", x.fits(0, 1, 40, 16, 3), NULL);
        due("status", x.status(), 1);

        promise(23, "PLACE.");
        int[] noPlaces = {LEAST, -1, 20, 40, LARGEST};
        for (int no : noPlaces) {
            due("i is " + no, x.fits(0, 0, no, 1, 0), PLACE);
            due("status", x.status(), 2);
        }
        due("beyond the end", x.fits(0, 0, 5, 16, 0), PLACE);
        due("to the end", x.fits(0, 0, 4, 16, 0), 0);
        due("beyond, two", x.fits(0, 0, 19, 2, 1), PLACE);
        due("the last one", x.fits(0, 0, 19, 1, 1), 0);
        x.row(2, 0, 0);
        due("of none", x.fits(0, 2, 0, 1, 0), PLACE);
    }

    private static void chance(PortraitYears x, int m, int d, int c, int above, int below) {
        String call = "thieves(" + m + ", " + d + ", " + c + ")";
        due(call + " above", x.thieves(m, d, c, 0), above);
        due(call + " below", x.thieves(m, d, c, 1), below);
    }

    private static void thieves() {
        term(3, "THIEVES: the PICTURE of each who LIVES is burnt now by c of 10, each by itself (he is DEAD then): "
            + "that m (0 to 5), or more, LIVE behind d YEARS: a fraction.");
        PortraitYears x = told(FIVE);
        chance(x, 5, 0, 1, 59049, 100000);
        chance(x, 3, 1, 3, 20923, 25000);
        chance(x, 0, 0, 10, 1, 1);
        chance(x, 0, 60, 0, 1, 1);
        chance(x, 5, 0, 0, 1, 1);
        chance(x, 1, 0, 10, 0, 1);
        // Behind 9 YEARS two LIVE; behind 60 one does.
        chance(x, 3, 9, 0, 0, 1);
        chance(x, 2, 9, 5, 1, 4);
        chance(x, 1, 9, 5, 3, 4);
        chance(x, 1, 9, 2, 24, 25);
        chance(x, 1, 60, 4, 3, 5);
        chance(x, 1, 60, 9, 1, 10);
        chance(x, 2, 60, 0, 0, 1);
        x.deed(4, 60);
        chance(x, 1, 60, 0, 0, 1);
        chance(x, 0, 60, 5, 1, 1);
        chance(x, 4, 0, 9, 1, 10000);
        chance(x, 5, 0, 0, 0, 1);
        chance(told("g1,1;w1,1;"), 0, 3, 5, 1, 1);
        chance(told("g1,1;w1,1;"), 1, 3, 0, 0, 1);
    }

    private static void thievesCall() {
        promise(24, "THIEVES (c 0 to 10): above (what = 0), below (1).");
        PortraitYears x = told("g1,1;w0,0;s1,1,0;");
        for (int c = 0; c <= 10; c++) {
            int common = c == 0 || c == 10 ? 10 : c == 5 ? 5 : c % 2 == 0 ? 2 : 1;
            chance(x, 1, 60, c, (10 - c) / common, 10 / common);
        }

        promise(24, "BAD;");
        int[] noM = {LEAST, -1, 6, LARGEST};
        int[] noC = {LEAST, -1, 11, LARGEST};
        for (int no : noM) {
            due("m is " + no, x.thieves(no, 0, 0, 0), BAD);
        }
        for (int no : NO_YEARS_AHEAD) {
            due("d is " + no, x.thieves(0, no, 0, 0), BAD);
        }
        for (int no : noC) {
            due("c is " + no, x.thieves(0, 0, no, 0), BAD);
        }
        for (int no : NO_WHATS) {
            due("what is " + no, x.thieves(0, 0, 0, no), BAD);
        }
        due("m is 5, of one", x.thieves(5, 0, 0, 0), 0);

        promise(24, "STATE: no HOUSE (ahead of BAD).");
        due("none wrong", new PortraitYears().thieves(0, 0, 0, 0), STATE);
        due("m is 6", new PortraitYears().thieves(6, 0, 0, 0), STATE);
        due("d is 61", new PortraitYears().thieves(0, 61, 0, 0), STATE);
        due("c is 11", new PortraitYears().thieves(0, 0, 11, 0), STATE);
        due("what is 2", new PortraitYears().thieves(0, 0, 0, 2), STATE);
    }

    private static void ages() {
        term(3, "AGES of n YEARS (0 to 60) by a SEED (X at first): "
            + "ahead of each X becomes the rest of (X times 16807) by 2147483647;");
        PortraitYears one = told("g1,1;w0,0;s1,60,0;");
        due("no YEARS, CELLS", one.drawn(0, 1, 1), 60);
        due("no YEARS, LIVES", one.drawn(0, 1, 0), 1);
        // X by 1: 16807, 282475249, 1622650073, 984943658, 1144108930, 470211272, 101027544, 1457850878.
        int[] takes = {2, 4, 3, 3, 0, 2, 4, 3};
        int left = 60;
        for (int n = 1; n <= 8; n++) {
            left -= takes[n - 1];
            due(n + " YEARS by 1", one.drawn(n, 1, 1), left);
        }
        for (int seed : new int[] {1, 2, 777, 999999}) {
            long x = seed;
            int due = 60;
            for (int n = 1; n <= 60; n++) {
                x = x * 16807 % 2147483647;
                due = Math.max(0, due - (int) (x % 5));
                due(n + " YEARS by " + seed, one.drawn(n, seed, 1), due);
            }
        }
        due("61 YEARS", one.drawn(61, 1, 1), BAD);
    }

    private static void agesOfThePictures() {
        term(3, "a deed takes as many CELLS as the rest of X by 5 from the PICTURE that is the rest of X by how many there are "
            + "(none: none), then the YEAR: who LIVES then (bits); CELLS together.");
        PortraitYears x = told(FIVE);
        // 2 of picture 2; the YEAR takes 3, 4, 3, 4 and 0.
        due("1 YEAR, CELLS", x.drawn(1, 1, 1), 92 - 2 - 14);
        // 4 of picture 4; in YEAR 1 the unsigned one does not FADE.
        due("2 YEARS, CELLS", x.drawn(2, 1, 1), 76 - 4 - 11);
        due("3 YEARS, CELLS", x.drawn(3, 1, 1), 61 - 3 - 11);
        due("3 YEARS, LIVES", x.drawn(3, 1, 0), 31);
        due("20 YEARS, LIVES", x.drawn(20, 7, 0), 0);
        // By 1 the deeds of the first four YEARS take 2, 4 and 3 of picture 1, then 3 of picture 0.
        PortraitYears two = told("g2,1;w0,0;s1,2,0;s1,9,0;");
        due("2 of 1", two.drawn(1, 1, 1), 9);
        due("9 of 1: DEAD", two.drawn(3, 1, 0), 1);
        due("9 of 1: CELLS", two.drawn(3, 1, 1), 2);
        due("3 of 0: 0 at least", two.drawn(4, 1, 1), 0);
        two.deed(0, 2);
        due("the DEAD are counted", two.drawn(1, 1, 1), 7);
        due("they take their deeds", two.drawn(4, 1, 1), 0);
        PortraitYears last = told("g2,1;w0,0;o1,3,0;");
        due("by the deed and the YEAR", last.drawn(1, 1, 0), 0);
        PortraitYears empty = told("g1,1;w1,1;");
        due("none: LIVES", empty.drawn(60, 5, 0), 0);
        due("none: CELLS", empty.drawn(60, 5, 1), 0);
        x.years(3);
        due("from YEAR 3", x.drawn(1, 1, 1), 11 + 18 + 9 + 13 + 5 - 2 - 11);
        due("from YEAR 3, two", x.drawn(2, 1, 1), 43 - 4 - 14);
    }

    private static void drawnCall() {
        promise(25, "AGES by a SEED (1 to 999999): who LIVES (what = 0), CELLS (1).");
        PortraitYears x = told("g2,1;w0,0;s1,60,0;s1,60,0;");
        due("SEED 1, LIVES", x.drawn(2, 1, 0), 3);
        due("SEED 1, CELLS", x.drawn(2, 1, 1), 120 - 2 - 4);
        // X is 16806983193 less seven times 2147483647.
        due("SEED 999999, CELLS", x.drawn(1, 999999, 1), 120 - (int) (1774597664L % 5));
        due("SEED 999999, LIVES", x.drawn(1, 999999, 0), 3);

        promise(25, "BAD;");
        int[] noSeeds = {LEAST, -1, 0, 1000000, LARGEST};
        for (int no : NO_YEARS_AHEAD) {
            due("n is " + no, x.drawn(no, 1, 0), BAD);
        }
        for (int no : noSeeds) {
            due("SEED " + no, x.drawn(0, no, 0), BAD);
        }
        for (int no : NO_WHATS) {
            due("what is " + no, x.drawn(0, 1, no), BAD);
        }

        promise(25, "STATE: no HOUSE (ahead of BAD).");
        due("none wrong", new PortraitYears().drawn(0, 1, 0), STATE);
        due("n is 61", new PortraitYears().drawn(61, 1, 0), STATE);
        due("SEED 0", new PortraitYears().drawn(0, 0, 0), STATE);
        due("what is 2", new PortraitYears().drawn(0, 1, 2), STATE);
    }
}
