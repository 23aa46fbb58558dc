/** YEARS and ACTS: part 2, promises 9 to 13, 26 and 27. */
final class ActsEdges extends Check {
    static void all() {
        fades();
        unsigned();
        dead();
        acts();
        eachAct();
        years();
        yearsRefused();
        deed();
        restore();
        restoreRefused();
        hang();
        hangRefused();
        undo();
        image();
        recall();
    }

    private static void fades() {
        term(2, "In a YEAR a PICTURE FADES by so many CELLS (0 at least are left):");
        PortraitYears x = told("g5,0;w9,0;o1,10,0;o1,11,0;o1,9,0;o1,1,0;o1,60,0;");
        due("LIVES", x.years(1), 18);
        cells("10 less, 0 at least", x, 0, 1, 0, 0, 50);

        term(2, "one in oil 1 more than LIGHT of its WALL by SKILL (cut); a copy twice that;");
        for (int light = 0; light <= 9; light++) {
            for (int skill = 1; skill <= 9; skill++) {
                PortraitYears y = told("g5,0;w" + light + ",9;o" + skill + ",60,0;c" + skill + ",60,0;u" + skill + ",60,0;");
                String of = "LIGHT " + light + " by SKILL " + skill;
                due("oil, " + of, y.picture(0, 4), 1 + light / skill);
                due("copy, " + of, y.picture(1, 4), 2 * (1 + light / skill));
                due("unsigned, " + of, y.picture(2, 4), 1 + light / skill);
            }
        }

        term(2, "one in pencil half of DAMP (cut); a shade none.");
        for (int damp = 0; damp <= 9; damp++) {
            PortraitYears y = told("g5,0;w9," + damp + ";p3,60,0;s3,60,0;");
            due("pencil, DAMP " + damp, y.picture(0, 4), damp / 2);
            due("shade, DAMP " + damp, y.picture(1, 4), 0);
            y.years(3);
            cells("three YEARS of DAMP " + damp, y, 60 - 3 * (damp / 2), 60);
        }
        due("a shade LIVES on", told("g1,0;w9,9;s1,1,0;").years(24), 1);
    }

    private static void unsigned() {
        term(2, "an unsigned one as one in oil, but only in YEARS (as it is ahead) that SKILL divides;");
        for (int skill = 1; skill <= 9; skill++) {
            PortraitYears x = told("g1,0;w3,0;u" + skill + ",60,0;");
            int left = 60;
            for (int year = 0; year < 19; year++) {
                boolean divides = year % skill == 0;
                due("SKILL " + skill + ", YEAR " + year, x.picture(0, 4), divides ? 1 + 3 / skill : 0);
                left = Math.max(0, left - (divides ? 1 + 3 / skill : 0));
                x.years(1);
                due("behind it", x.picture(0, 1), left);
            }
        }
    }

    private static void dead() {
        term(2, "Whose picture has no CELL left is DEAD; else he LIVES.");
        PortraitYears x = told("g2,9;w0,0;w0,0;s1,2,0;s1,9,0;s1,9,1;");
        due("one CELL", x.deed(0, 1), 1);
        due("LIVES by one", x.picture(0, 3), 1);
        due("bits", x.count(5), 7);
        due("no CELL", x.deed(0, 1), 0);
        due("DEAD by none", x.picture(0, 3), 0);
        due("bits", x.count(5), 6);

        term(2, "Pictures of the DEAD hang as they did, have 0 CELLS for good.");
        due("its WALL", x.picture(0, 2), 0);
        due("the WALL's", x.wall(0, 2), 3);
        due("it takes ROOM", x.hang(2, 0), FULL);
        due("no CELL is restored", x.restore(0, 1), STATE);
        due("no deed marks it", x.deed(0, 1), STATE);
        x.years(24);
        due("YEARS leave it so", x.picture(0, 1), 0);
        due("it is hung elsewhere", x.hang(0, 1), 0);
        due("no CELLS there", x.picture(0, 1), 0);
        due("foretold", x.remains(0, 60), 0);
        due("PICTURES", x.count(2), 3);
    }

    private static void acts() {
        term(2, "ACTS (24 at most are kept, of more the oldest is forgotten;");
        PortraitYears x = told("g2,9;w0,0;w0,0;s1,60,0;");
        for (int n = 1; n <= 24; n++) {
            x.deed(0, 1);
            due("ACTS", x.count(6), n);
        }
        x.hang(0, 1);
        due("24 yet", x.count(6), 24);
        x.years(1);
        due("24 yet", x.count(6), 24);
        for (int left = 23; left >= 0; left--) {
            due("undo", x.undo(), left);
        }
        due("none", x.undo(), STATE);
        due("two deeds stand", x.picture(0, 1), 58);
        due("the WALL", x.picture(0, 2), 0);
        due("the YEAR", x.count(3), 0);
        x.years(24);
        x.years(24);
        due("24 of 48", x.count(6), 24);
        for (int left = 23; left >= 0; left--) {
            x.undo();
        }
        due("24 YEARS stand", x.count(3), 24);

        term(2, "each can be undone, the latest first;");
        PortraitYears y = told(FIVE);
        y.deed(0, 5);
        y.hang(0, 2);
        y.restore(0, 3);
        y.years(1);
        due("FADED by the other WALL", y.picture(0, 1), 14);
        due("the YEAR", y.undo(), 3);
        due("CELLS", y.picture(0, 1), 18);
        due("YEAR", y.count(3), 0);
        due("what was restored", y.undo(), 2);
        due("CELLS", y.picture(0, 1), 15);
        due("PURSE", y.count(4), 30);
        due("the WALL", y.undo(), 1);
        due("WALL", y.picture(0, 2), 0);
        due("the deed", y.undo(), 0);
        cells("all undone", y, 20, 30, 12, 25, 5);

        term(2, "also such by which nothing becomes another):");
        PortraitYears z = told("g1,9;w0,0;s1,60,0;");
        due("no CELL comes", z.restore(0, 5), 60);
        due("an ACT", z.count(6), 1);
        due("PURSE", z.count(4), 9);
        z.years(1);
        due("a YEAR in which none FADES", z.count(6), 2);
        due("undo", z.undo(), 1);
        due("undo", z.undo(), 0);
        due("CELLS", z.picture(0, 1), 60);
    }

    private static void eachAct() {
        term(2, "a YEAR (all FADE; it is 1 more);");
        PortraitYears x = told(FIVE);
        due("LIVES", x.years(1), 31);
        cells("all FADE", x, 17, 26, 9, 21, 5);
        due("YEAR", x.count(3), 1);

        term(2, "a deed marks a PICTURE (CELLS are v less, 0 at least);");
        due("v less", x.deed(1, 25), 1);
        due("0 at least", x.deed(1, 2), 0);
        due("just so many", x.deed(2, 9), 0);
        cells("no other", x, 17, 0, 0, 21, 5);

        term(2, "CELLS are restored for one PENNY each (60 at most are there; PURSE is less by what came);");
        due("7", x.restore(0, 7), 24);
        due("PURSE", x.count(4), 23);
        x = told("g2,5;w0,0;s1,58,0;s1,60,0;");
        due("60 at most", x.restore(0, 60), 60);
        due("PURSE for two", x.count(4), 3);
        due("none came", x.restore(1, 60), 60);
        due("PURSE for none", x.count(4), 3);

        term(2, "a PICTURE is hung on another WALL.");
        x = told(FIVE);
        due("where it hung", x.hang(3, 2), 1);
        due("its WALL", x.picture(3, 2), 2);
        due("it FADES there", x.picture(3, 4), 0);
        due("the WALL it left", x.wall(1, 2), 16);
        due("the WALL it came to", x.wall(2, 2), 12);
    }

    private static void years() {
        promise(9, "n YEARS (1 to 24), an ACT each: who LIVES (bits).");
        PortraitYears x = told(FIVE);
        due("1", x.years(1), 31);
        due("an ACT", x.count(6), 1);
        due("6", x.years(6), 22);
        cells("YEAR 7", x, 0, 2, 6, 0, 5);
        due("7 ACTS", x.count(6), 7);
        due("24", x.years(24), 16);
        due("YEAR", x.count(3), 31);
        due("24 ACTS", x.count(6), 24);
        due("undo one YEAR", x.undo(), 23);
        due("YEAR", x.count(3), 30);
        PortraitYears empty = told("g1,1;w1,1;");
        due("nobody", empty.years(24), 0);
        due("YEAR", empty.count(3), 24);
    }

    private static void yearsRefused() {
        PortraitYears x = told(FIVE);
        int[] noYears = {LEAST, -1, 0, 25, LARGEST};
        promise(9, "BAD;");
        for (int no : noYears) {
            due("n is " + no, x.years(no), BAD);
        }
        due("YEAR", x.count(3), 0);

        promise(9, "STATE: no HOUSE (ahead of BAD);");
        for (int no : noYears) {
            due("n is " + no, new PortraitYears().years(no), STATE);
        }
        due("n is 1", new PortraitYears().years(1), STATE);

        promise(9, "FULL: beyond YEAR 999.");
        for (int i = 0; i < 41; i++) {
            x.years(24);
        }
        due("YEAR", x.count(3), 984);
        due("beyond", x.years(16), FULL);
        due("24 beyond", x.years(24), FULL);
        due("none of them came", x.count(3), 984);
        for (int no : noYears) {
            due("BAD ahead of FULL, " + no, x.years(no), BAD);
        }
        due("just so many", x.years(15), 16);
        due("YEAR", x.count(3), 999);
        due("one beyond", x.years(1), FULL);
        due("YEAR", x.count(3), 999);
        due("foretold beyond it all the same", x.lives(60), 16);
        x.undo();
        due("one again", x.years(1), 16);
    }

    private static void deed() {
        promise(10, "A deed (v 1 to 60): CELLS then.");
        PortraitYears x = told("g5,0;w0,0;s1,60,0;s1,60,0;s1,9,0;");
        due("v 1", x.deed(0, 1), 59);
        due("v 60", x.deed(1, 60), 0);
        due("v 60 of 9", x.deed(2, 60), 0);
        due("ACTS", x.count(6), 3);

        promise(10, "BAD;");
        int[] noDeeds = {LEAST, -1, 0, 61, LARGEST};
        int[] noPictures = {LEAST, -1, 3, 4, 5, LARGEST};
        for (int no : noDeeds) {
            due("v is " + no, x.deed(0, no), BAD);
            due("v is " + no + ", DEAD", x.deed(1, no), BAD);
        }
        for (int no : noPictures) {
            due("picture " + no, x.deed(no, 1), BAD);
        }
        due("no HOUSE", new PortraitYears().deed(0, 1), BAD);

        promise(10, "STATE: DEAD.");
        due("by a deed", x.deed(1, 1), STATE);
        due("by another", x.deed(2, 60), STATE);
        due("ACTS", x.count(6), 3);
        PortraitYears y = told("g1,0;w0,0;o1,1,0;");
        y.years(1);
        due("by a YEAR", y.deed(0, 1), STATE);
    }

    private static void restore() {
        promise(11, "CELLS are restored (v 1 to 60, as far as 60 are there): CELLS then.");
        PortraitYears x = told("g5,99;w0,0;s1,1,0;s1,59,0;s1,60,0;s1,10,0;");
        due("v 1", x.restore(0, 1), 2);
        due("v 60, as far as 60", x.restore(0, 60), 60);
        due("PURSE", x.count(4), 99 - 1 - 58);
        due("to 60", x.restore(1, 1), 60);
        due("one more is none", x.restore(1, 1), 60);
        due("60 are there", x.restore(2, 60), 60);
        due("PURSE", x.count(4), 39);
        due("just the PURSE", x.restore(3, 39), 49);
        due("PURSE", x.count(4), 0);
    }

    private static void restoreRefused() {
        PortraitYears x = told("g5,10;w0,0;s1,1,0;s1,55,0;s1,60,0;s1,9,0;");
        x.deed(3, 9);
        promise(11, "BAD;");
        int[] noCells = {LEAST, -1, 0, 61, LARGEST};
        int[] noPictures = {LEAST, -1, 4, 5, LARGEST};
        for (int no : noCells) {
            due("v is " + no, x.restore(0, no), BAD);
            due("v is " + no + ", DEAD", x.restore(3, no), BAD);
        }
        for (int no : noPictures) {
            due("picture " + no, x.restore(no, 1), BAD);
        }
        due("no HOUSE", new PortraitYears().restore(0, 1), BAD);

        promise(11, "STATE: DEAD, PURSE is not enough for what would come.");
        due("DEAD", x.restore(3, 1), STATE);
        due("DEAD, 60", x.restore(3, 60), STATE);
        due("11 for 10", x.restore(0, 11), STATE);
        due("59 for 10", x.restore(0, 60), STATE);
        due("none came", x.picture(0, 1), 1);
        due("PURSE", x.count(4), 10);
        due("5 would come of 60", x.restore(1, 60), 60);
        due("PURSE", x.count(4), 5);
        due("6 for 5", x.restore(0, 6), STATE);
        due("5 for 5", x.restore(0, 5), 6);
        due("1 for none", x.restore(0, 1), STATE);
        due("none would come, for none", x.restore(2, 60), 60);
    }

    private static void hang() {
        promise(12, "A PICTURE is hung on a WALL: where it hung.");
        PortraitYears x = told("g2,0;w0,0;w1,1;w2,2;w3,3;o1,60,0;o1,60,3;");
        due("to the last", x.hang(0, 3), 0);
        due("to the first", x.hang(0, 0), 3);
        due("its WALL", x.picture(0, 2), 0);
        due("from the last", x.hang(1, 2), 3);
        due("ACTS", x.count(6), 3);
        x.deed(1, 60);
        due("one of the DEAD", x.hang(1, 1), 2);
    }

    private static void hangRefused() {
        PortraitYears x = told(FIVE);
        promise(12, "BAD;");
        int[] noPictures = {LEAST, -1, 5, LARGEST};
        int[] noWalls = {LEAST, -1, 3, 4, LARGEST};
        for (int no : noPictures) {
            due("picture " + no, x.hang(no, 0), BAD);
        }
        for (int no : noWalls) {
            due("wall " + no, x.hang(0, no), BAD);
        }
        due("no HOUSE", new PortraitYears().hang(0, 0), BAD);

        promise(12, "STATE: it hangs there;");
        due("there is ROOM", x.hang(2, 2), STATE);
        due("there is no ROOM", x.hang(0, 0), STATE);
        due("ACTS", x.count(6), 0);

        promise(12, "FULL: there is no ROOM.");
        due("two are there", x.hang(2, 0), FULL);
        due("its WALL", x.picture(2, 2), 2);
        due("ACTS", x.count(6), 0);
        due("one is there", x.hang(0, 2), 0);
        due("now two are there", x.hang(1, 2), FULL);
        due("one went", x.hang(2, 0), 2);
        due("one is there", x.hang(3, 2), 1);
        PortraitYears one = told("g1,0;w0,0;w0,0;s1,1,0;s1,1,1;");
        due("ROOM 1", one.hang(0, 1), FULL);
        PortraitYears five = told("g5,0;w0,0;w0,0;" + "s1,1,0;".repeat(4) + "s1,1,1;");
        due("ROOM 5", five.hang(4, 0), 1);
    }

    private static void undo() {
        promise(13, "The latest ACT is undone: how many can be undone yet.");
        PortraitYears x = told(FIVE);
        x.years(2);
        x.deed(0, 60);
        x.restore(1, 7);
        x.hang(0, 2);
        due("hang", x.undo(), 4);
        due("WALL", x.picture(0, 2), 0);
        due("the WALL's", x.wall(2, 2), 4);
        due("restore", x.undo(), 3);
        due("PURSE", x.count(4), 30);
        due("deed", x.undo(), 2);
        due("he LIVES again", x.picture(0, 3), 1);
        cells("YEAR 2", x, 14, 22, 9, 17, 5);
        due("YEAR", x.undo(), 1);
        cells("YEAR 1", x, 17, 26, 9, 21, 5);
        due("other ACTS behind it", x.deed(4, 5), 0);
        due("that one", x.undo(), 1);
        due("YEAR", x.undo(), 0);
        cells("YEAR 0", x, 20, 30, 12, 25, 5);

        promise(13, "STATE: none.");
        due("all undone", x.undo(), STATE);
        cells("all stays", x, 20, 30, 12, 25, 5);
        due("no HOUSE", new PortraitYears().undo(), STATE);
        due("a new HOUSE", told(FIVE).undo(), STATE);
        x.deed(0, 61);
        x.hang(0, 0);
        due("refused ones are none", x.undo(), STATE);
    }

    private static void image() {
        promise(26, "An IMAGE (0, 1) is kept of the HOUSE: 1.");
        PortraitYears x = told(FIVE);
        due("image 0", x.image(0), 1);
        x.years(2);
        due("image 1", x.image(1), 1);
        due("ACTS stay", x.count(6), 2);
        due("YEAR stays", x.count(3), 2);
        x.years(1);
        due("recall 1", x.recall(1), 1);
        due("YEAR 2", x.count(3), 2);
        due("recall 0", x.recall(0), 1);
        due("YEAR 0", x.count(3), 0);
        x.deed(0, 4);
        due("in place of the one before", x.image(0), 1);
        x.deed(0, 4);
        x.recall(0);
        due("CELLS", x.picture(0, 1), 16);
        due("of one without PICTURES", told("g1,1;w1,1;").image(1), 1);

        promise(26, "BAD;");
        int[] noImages = {LEAST, -1, 2, LARGEST};
        for (int no : noImages) {
            due("image " + no, x.image(no), BAD);
            due("image " + no + ", no HOUSE", new PortraitYears().image(no), BAD);
        }

        promise(26, "STATE: no HOUSE.");
        PortraitYears none = new PortraitYears();
        due("image 0", none.image(0), STATE);
        due("image 1", none.image(1), STATE);
        due("none was kept", none.recall(0), STATE);
        read(none, "g0");
        due("a FAULT is no HOUSE", none.image(0), STATE);
    }

    private static void recall() {
        promise(27, "The HOUSE is as an IMAGE kept it (no ACT can be undone then): 1.");
        PortraitYears x = told(FIVE);
        x.hang(0, 2);
        x.restore(0, 10);
        x.years(4);
        x.image(0);
        read(x, "g1,9;w5,5;p1,1,0;");
        x.years(2);
        due("recall", x.recall(0), 1);
        due("ACTS", x.count(6), 0);
        due("undo", x.undo(), STATE);
        due("WALLS", x.count(1), 3);
        due("PICTURES", x.count(2), 5);
        due("YEAR", x.count(3), 4);
        due("PURSE", x.count(4), 20);
        due("LIVES", x.count(5), 31);
        cells("recalled", x, 14, 14, 9, 9, 5);
        int[] walls = {2, 0, 2, 1, 1};
        int[] skills = {3, 5, 4, 2, 1};
        for (int p = 0; p < 5; p++) {
            due("WALL of " + p, x.picture(p, 2), walls[p]);
            due("SKILL of " + p, x.picture(p, 0), skills[p]);
            due("KIND of " + p, x.kind(p), p + 1);
        }
        due("ROOM", x.hang(1, 2), FULL);
        int[] lights = {6, 0, 9};
        int[] damps = {3, 9, 0};
        for (int w = 0; w < 3; w++) {
            due("LIGHT of " + w, x.wall(w, 0), lights[w]);
            due("DAMP of " + w, x.wall(w, 1), damps[w]);
        }
        x.years(5);
        due("recall again", x.recall(0), 1);
        cells("the IMAGE stays", x, 14, 14, 9, 9, 5);
        due("ACTS", x.count(6), 0);

        promise(27, "BAD;");
        int[] noImages = {LEAST, -1, 2, LARGEST};
        for (int no : noImages) {
            due("recall " + no, x.recall(no), BAD);
            due("recall " + no + ", none was kept", new PortraitYears().recall(no), BAD);
        }

        promise(27, "STATE: none was kept.");
        x.years(1);
        due("of 1", x.recall(1), STATE);
        due("YEAR stays", x.count(3), 5);
        due("ACTS stay", x.count(6), 1);
        due("no HOUSE", new PortraitYears().recall(0), STATE);
        due("no HOUSE", new PortraitYears().recall(1), STATE);
    }
}
