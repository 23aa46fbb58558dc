/** TEXTS and FAULTS: part 1 behind its first sentence, promises 1 and 6 to 8. */
final class TextsEdges extends Check {
    private static final String WALLS = "g2,5;w1,1;w2,2;";
    private static final String FULL_HOUSE = "g05,99;" + "w09,09;".repeat(4) + "o09,60,01;".repeat(5);

    static void all() {
        tape();
        letters();
        tokens();
        numbers();
        order();
        law();
        wall();
        picture();
        sorts();
        roomOfPictures();
        inPlace();
        firstFault();
        misplaced();
        theEnd();
        notAsTold();
        tooMany();
        newObject();
        feed();
        house();
        houseFails();
        fault();
    }

    /** A text that has a FAULT: where, which one, and nothing stands then. */
    private static void fails(String text, int place, int number) {
        PortraitYears x = new PortraitYears();
        due(text, read(x, text), -1000100 - place);
        due("fault() of " + text, x.fault(), number);
        due("WALLS of " + text, x.count(1), 0);
        due("lives(0) of " + text, x.lives(0), STATE);
    }

    private static void reads(String text, int pictures) {
        PortraitYears x = new PortraitYears();
        due(text, read(x, text), pictures);
        due("PICTURES of " + text, x.count(2), pictures);
        due("fault() of " + text, x.fault(), 0);
    }

    private static void tape() {
        term(1, "TEXTS: THE TAPE has at most 100 bytes, that come one by one;");
        PortraitYears x = new PortraitYears();
        for (int n = 1; n <= 100; n++) {
            due("byte " + n, x.feed('a'), n);
            due("bytes", x.count(7), n);
        }
        due("byte 101", x.feed('a'), FULL);
        due("bytes", x.count(7), 100);
        due("they are read", x.house(), -1000100);
        PortraitYears y = new PortraitYears();
        due("the longest text", read(y, FULL_HOUSE), 5);
        due("a HOUSE, 15 bytes more", read(y, FULL_HOUSE + "x".repeat(15)), -1000100 - FULL_HOUSE.length());
    }

    private static void letters() {
        term(1, "TOKENS: letters a to z (each by itself),");
        for (int sign = 0; sign < 256; sign++) {
            boolean goesOn = "wocups".indexOf(sign) >= 0;
            PortraitYears x = new PortraitYears();
            due("byte " + sign + " behind a wall", read(x, "g1,1;w1,1;" + (char) sign), -1000110 - (goesOn ? 1 : 0));
            due("its FAULT", x.fault(), 1);
            if (sign != 'g') {
                fails((char) sign + "1,1;w1,1;", 0, 1);
            }
        }
        fails("gw1,1;", 1, 1);
        fails("g1,1;ww1,1;", 6, 1);
        fails("g1,1;w1,1;oo1,1,0;", 11, 1);
    }

    private static void tokens() {
        term(1, "SIGNS , and ; nothing else, no blanks.");
        for (int sign = 0; sign < 256; sign++) {
            boolean figure = sign >= '0' && sign <= '9';
            if (sign != ',' && !figure) {
                fails("g1" + (char) sign + "1;w1,1;", 2, 1);
            }
            if (sign != ';' && !figure) {
                fails("g1,1" + (char) sign + "w1,1;", 4, 1);
            }
            if (!figure) {
                fails("g" + (char) sign + ",1;w1,1;", 1, 1);
            }
        }
        fails(" g1,1;w1,1;", 0, 1);
        fails("g1 ,1;w1,1;", 2, 1);
        fails("g1,1;\nw1,1;", 5, 1);
        fails("g1,1;w1,1; ", 10, 1);
        fails("g1,1;w1,1;" + (char) 0, 10, 1);
    }

    private static void numbers() {
        term(1, "NUMBERS (figures, 2 at most),");
        reads("g1,0;w0,0;", 0);
        reads("g01,00;w00,00;", 0);
        PortraitYears x = told("g05,07;w09,08;u09,06,00;");
        due("PURSE 07", x.count(4), 7);
        due("LIGHT 09", x.wall(0, 0), 9);
        due("DAMP 08", x.wall(0, 1), 8);
        due("SKILL 09", x.picture(0, 0), 9);
        due("CELLS 06", x.picture(0, 1), 6);
        fails("g001,1;", 1, 1);
        fails("g1,000;", 3, 1);
        fails("g1,1;w000,1;", 6, 1);
        fails("g1,1;w1,000;", 8, 1);
        fails("g1,1;w1,1;o001,1,0;", 11, 1);
        fails("g1,1;w1,1;o1,001,0;", 13, 1);
        fails("g1,1;w1,1;o1,1,000;", 15, 1);
    }

    private static void order() {
        term(1, "house: law wall { wall } { picture }.");
        reads("g1,1;w1,1;", 0);
        reads("g1,1;w1,1;w1,1;", 0);
        reads("g1,1;w1,1;o1,1,0;", 1);
        fails("", 0, 1);
        fails("w1,1;", 0, 1);
        fails("o1,1,0;", 0, 1);
        fails("g1,1;", 5, 1);
        fails("g1,1;g1,1;w1,1;", 5, 1);
        fails("g1,1;o1,1,0;", 5, 1);
        fails("g1,1;w1,1;g1,1;", 10, 1);
        fails("g2,1;w1,1;o1,1,0;w1,1;", 17, 1);
        fails("g2,1;w1,1;o1,1,0;g1,1;", 17, 1);
        fails("g2,1;w1,1;o1,1,0;;", 17, 1);
        fails("g2,1;w1,1;o1,1,0;1", 17, 1);
        reads("g2,1;w1,1;o1,1,0;o1,1,0;", 2);
    }

    private static void law() {
        term(1, "law: g ROOM , PURSE ; (1 to 5; 0 to 99).");
        fails("g0,0;w1,1;", 1, 2);
        fails("g00,0;w1,1;", 1, 2);
        fails("g6,0;w1,1;", 1, 2);
        fails("g99,0;w1,1;", 1, 2);
        for (int room = 1; room <= 5; room++) {
            String pictures = "s1,1,0;".repeat(room);
            reads("g" + room + ",0;w1,1;" + pictures, room);
            if (room < 5) {
                fails("g" + room + ",0;w1,1;" + pictures + "s1,1,0;", 10 + 7 * room + 5, 2);
            }
        }
        due("PURSE 0", told("g1,0;w1,1;").count(4), 0);
        due("PURSE 99", told("g1,99;w1,1;").count(4), 99);
        fails("g1,100;w1,1;", 3, 1);
        fails("g", 1, 1);
        fails("g1", 2, 1);
        fails("g1;", 2, 1);
        fails("g1,", 3, 1);
        fails("g1,;", 3, 1);
        fails("g1,1", 4, 1);
        fails("g1,1,", 4, 1);
    }

    private static void wall() {
        term(1, "wall: w LIGHT , DAMP ; (0 to 9 each; WALLS 0 .. 3, 4 at most).");
        PortraitYears x = told("g1,0;w0,9;w9,0;w3,4;w5,6;");
        int[] lights = {0, 9, 3, 5};
        int[] damps = {9, 0, 4, 6};
        for (int w = 0; w <= 3; w++) {
            due("LIGHT of " + w, x.wall(w, 0), lights[w]);
            due("DAMP of " + w, x.wall(w, 1), damps[w]);
        }
        due("WALLS", x.count(1), 4);
        due("wall 4", x.wall(4, 0), BAD);
        fails("g1,0;w10,0;", 6, 2);
        fails("g1,0;w0,10;", 8, 2);
        fails("g1,0;w99,0;", 6, 2);
        fails("g1,0;w0,99;", 8, 2);
        fails("g1,0;w0;", 7, 1);
        fails("g1,0;w,0;", 6, 1);
        fails("g1,0;w0,;", 8, 1);
        fails("g1,0;w0,0,", 9, 1);
        fails("g1,0;w0,9;w9,0;w3,4;w5,6;w1,1;", 25, 3);
    }

    private static void picture() {
        term(1, "picture: SORT SKILL , CELLS , WALL ;");
        reads(WALLS + "o1,1,0;", 1);
        fails(WALLS + "o", 16, 1);
        fails(WALLS + "o,", 16, 1);
        fails(WALLS + "o1", 17, 1);
        fails(WALLS + "o1;", 17, 1);
        fails(WALLS + "o1,", 18, 1);
        fails(WALLS + "o1,;", 18, 1);
        fails(WALLS + "o1,60", 20, 1);
        fails(WALLS + "o1,60;", 20, 1);
        fails(WALLS + "o1,60,", 21, 1);
        fails(WALLS + "o1,60,;", 21, 1);
        fails(WALLS + "o1,60,0", 22, 1);
        fails(WALLS + "o1,60,0,", 22, 1);
    }

    private static void sorts() {
        term(1, "(SORT: o one in oil, c a copy, u an unsigned one, p one in pencil, s a shade; 1 to 9; 1 to 60;");
        PortraitYears x = told("g5,0;w1,1;o1,1,0;c2,2,0;u9,60,0;p3,30,0;s4,4,0;");
        for (int p = 0; p < 5; p++) {
            due("KIND of " + p, x.kind(p), p + 1);
        }
        for (char sort = 'a'; sort <= 'z'; sort++) {
            if ("ocupsw".indexOf(sort) < 0) {
                fails(WALLS + sort + "1,1,0;", 15, 1);
            }
        }
        due("SKILL 1", x.picture(0, 0), 1);
        due("SKILL 9", x.picture(2, 0), 9);
        fails(WALLS + "o0,1,0;", 16, 2);
        fails(WALLS + "o10,1,0;", 16, 2);
        due("CELLS 1", x.picture(0, 1), 1);
        due("CELLS 60", x.picture(2, 1), 60);
        fails(WALLS + "o1,0,0;", 18, 2);
        fails(WALLS + "o1,00,0;", 18, 2);
        fails(WALLS + "o1,61,0;", 18, 2);
        fails(WALLS + "o1,99,0;", 18, 2);
    }

    private static void roomOfPictures() {
        term(1, "a WALL told on which fewer than ROOM PICTURES hang; PICTURES 0 .. 4, 5 at most).");
        reads(WALLS + "o1,1,1;", 1);
        fails(WALLS + "o1,1,2;", 20, 2);
        fails(WALLS + "o1,1,99;", 20, 2);
        fails("g5,0;w1,1;o1,1,1;", 15, 2);
        reads(WALLS + "o1,1,0;o1,1,1;o1,1,0;o1,1,1;", 4);
        fails(WALLS + "o1,1,0;o1,1,0;o1,1,0;", 34, 2);
        fails(WALLS + "o1,1,0;o1,1,1;o1,1,1;o1,1,1", 41, 2);
        fails("g1,0;w1,1;o1,1,0;o1,1,0;", 22, 2);
        // No WALL has ROOM: it is the NUMBER that is not as told, whichever it is.
        fails("g1,0;w1,1;w1,1;o1,1,0;o1,1,1;s1,1,0;", 34, 2);
        String five = "g5,0;w1,1;" + "s1,1,0;".repeat(5);
        reads(five, 5);
        due("picture 4", told(five).picture(4, 1), 1);
        due("picture 5", told(five).picture(5, 1), BAD);
        fails(five + "s1,1,0;", 45, 3);
    }

    private static void inPlace() {
        term(1, "A HOUSE that is read stands in place of the one before (none at first):");
        PortraitYears x = new PortraitYears();
        due("none at first", x.lives(0), STATE);
        due("five", read(x, FIVE), 5);
        due("another", read(x, "g1,7;w1,2;o2,9,0;"), 1);
        due("WALLS", x.count(1), 1);
        due("PICTURES", x.count(2), 1);
        due("PURSE", x.count(4), 7);
        due("LIVES", x.count(5), 1);
        due("ROOM, WALL", x.wall(0, 2), 1);
        due("wall 1", x.wall(1, 0), BAD);
        due("picture 1", x.picture(1, 0), BAD);
        due("remains of 1", x.remains(1, 0), BAD);
        due("one without PICTURES", read(x, "g1,8;w3,3;"), 0);
        due("it stands", x.lives(0), 0);
        due("picture 0", x.picture(0, 0), BAD);
        due("five again", read(x, FIVE), 5);
        due("CELLS of 4", x.picture(4, 1), 5);

        term(1, "YEAR 0; no ACT can be undone; IMAGES and ROWS stay.");
        x.row(3, 0, 4);
        x.image(0);
        x.years(4);
        x.deed(0, 1);
        x.image(1);
        due("another", read(x, "g1,7;w1,2;o2,9,0;"), 1);
        due("YEAR", x.count(3), 0);
        due("ACTS", x.count(6), 0);
        due("undo", x.undo(), STATE);
        due("CELLS", x.picture(0, 1), 9);
        due("ROWS", x.count(0), 1);
        due("IMAGE 1", x.recall(1), 1);
        due("its YEAR", x.count(3), 4);
        due("IMAGE 0", x.recall(0), 1);
        due("its PICTURES", x.count(2), 5);
        due("ITEMS", x.drop(3), 4);
    }

    private static void firstFault() {
        term(1, "FAULTS, the first TOKEN that has one (its first byte), of one TOKEN the least:");
        fails("g0,100;w99,99;x", 1, 2);
        fails("g1,100;w99,99;x", 3, 1);
        fails("g1,10;w99,99;x", 7, 2);
        fails("g1,10;w9,99;x", 9, 2);
        fails("g1,10;w9,9;x", 11, 1);
        fails("g1,10;w9,9;o99,99,9;", 12, 2);
        fails("g1,10;w9,9;o9,99,9;", 14, 2);
        fails("g1,10;w9,9;o9,9,99;", 16, 2);
        // A run of three figures that is above what is told, too: 1 is less than 2.
        fails("g999,1;", 1, 1);
        fails(WALLS + "o1,610,0;", 18, 1);
        // A sixth one that is no picture: 1 is less than 3.
        fails("g5,0;w1,1;" + "s1,1,0;".repeat(5) + "x1,1,0;", 45, 1);
        fails("g5,0;w1,1;" + "s1,1,0;".repeat(5) + "w1,1;", 45, 1);
        fails("g1,0;" + "w1,1;".repeat(4) + "s1,1,0;w1,1;", 32, 1);
    }

    private static void misplaced() {
        term(1, "1 it cannot stand there, or is none (a run of three figures or more, at its first;");
        fails("1", 0, 1);
        fails("99g", 0, 1);
        fails("100g", 0, 1);
        fails(",", 0, 1);
        fails("gg", 1, 1);
        fails("g1w", 2, 1);
        fails("g,1", 1, 1);
        fails("g1,1w", 4, 1);
        fails("g1,1;5", 5, 1);
        fails("g123,1;", 1, 1);
        fails("g0123456789,1;", 1, 1);
        fails("g1," + "9".repeat(97), 3, 1);
        fails("g1,1;w1,123;", 8, 1);
        fails("g1,1;w1,1;123", 10, 1);
    }

    private static void theEnd() {
        term(1, "the end: how many bytes there are);");
        for (int bytes = 0; bytes < FULL_HOUSE.length(); bytes++) {
            String text = FULL_HOUSE.substring(0, bytes);
            boolean whole = bytes >= 14 && (bytes <= 35 ? bytes % 7 == 0 : bytes % 10 == 5);
            boolean midst = bytes > 0 && isFigure(FULL_HOUSE, bytes - 1) && isFigure(FULL_HOUSE, bytes);
            if (whole) {
                reads(text, bytes <= 35 ? 0 : (bytes - 35) / 10);
            } else if (!midst) {
                fails(text, bytes, 1);
            }
        }
        reads(FULL_HOUSE, 5);
        fails("g1,5", 4, 1);
    }

    private static boolean isFigure(String text, int at) {
        return text.charAt(at) >= '0' && text.charAt(at) <= '9';
    }

    private static void notAsTold() {
        term(1, "2 a NUMBER that is not as told;");
        fails("g0,1;w1,1;", 1, 2);
        fails("g6", 1, 2);
        fails("g1,1;w10", 6, 2);
        fails("g1,1;w1,10", 8, 2);
        fails(WALLS + "o0", 16, 2);
        fails(WALLS + "o10", 16, 2);
        fails(WALLS + "o1,0", 18, 2);
        fails(WALLS + "o1,61", 18, 2);
        fails(WALLS + "o1,1,2", 20, 2);
        fails(WALLS + "o1,1,10", 20, 2);
    }

    private static void tooMany() {
        term(1, "3 a wall, a picture more than there is room for (its letter).");
        String four = "g1,5;" + "w1,1;".repeat(4);
        reads(four, 0);
        fails(four + "w", 25, 3);
        fails(four + "w99,99;", 25, 3);
        String five = "g5,5;w1,1;" + "s1,1,0;".repeat(5);
        for (char sort : "ocups".toCharArray()) {
            fails(five + sort, 45, 3);
        }
        fails(five + "o1,1,0;", 45, 3);
        fails(FULL_HOUSE + "s", 85, 3);
    }

    private static void newObject() {
        promise(1, "No HOUSE.");
        PortraitYears x = new PortraitYears();
        for (int what = 0; what <= 7; what++) {
            due("count(" + what + ")", x.count(what), 0);
        }
        due("years", x.years(1), STATE);
        due("deed", x.deed(0, 1), BAD);
        due("restore", x.restore(0, 1), BAD);
        due("hang", x.hang(0, 0), BAD);
        due("undo", x.undo(), STATE);
        due("picture", x.picture(0, 0), BAD);
        due("wall", x.wall(0, 0), BAD);
        due("remains", x.remains(0, 0), BAD);
        due("lives", x.lives(0), STATE);
        due("dies", x.dies(0), BAD);
        due("first", x.first(0), STATE);
        due("hanging", x.hanging(0, -1), STATE);
        due("save", x.save(0, 0), STATE);
        due("dark", x.dark(0, 0), STATE);
        x.row(0, 0, 1);
        due("fits", x.fits(0, 0, 0, 1, 0), BAD);
        due("thieves", x.thieves(0, 0, 0, 0), STATE);
        due("drawn", x.drawn(0, 1, 0), STATE);
        due("image", x.image(0), STATE);
        due("recall", x.recall(0), STATE);
        due("kind", x.kind(0), BAD);
        due("as", x.as(0, 0), BAD);
        due("ask", x.ask(0, 0), BAD);
        due("trace", x.trace(0), NONE);
        due("fault", x.fault(), 0);
        due("status", x.status(), 0);
    }

    private static void feed() {
        promise(6, "A byte (0 to 255) comes behind the tape: how many it has.");
        PortraitYears x = new PortraitYears();
        due("0", x.feed(0), 1);
        due("255", x.feed(255), 2);
        due("bytes", x.count(7), 2);
        due("it comes behind", read(new PortraitYears(), "g1,1;w1,1;"), 0);

        promise(6, "BAD;");
        int[] noBytes = {LEAST, -1, 256, LARGEST};
        for (int no : noBytes) {
            due("byte " + no, x.feed(no), BAD);
        }
        due("none came", x.count(7), 2);

        promise(6, "FULL.");
        for (int n = 3; n <= 100; n++) {
            due("byte " + n, x.feed('a'), n);
        }
        due("byte 101", x.feed('a'), FULL);
        due("byte 101 again", x.feed(0), FULL);
        for (int no : noBytes) {
            due("BAD ahead of FULL, " + no, x.feed(no), BAD);
        }
        due("100 are there", x.count(7), 100);
        x.house();
        due("the first again", x.feed('a'), 1);
    }

    private static void house() {
        promise(7, "The tape, empty then, is read: how many PICTURES there are.");
        for (int pictures = 0; pictures <= 5; pictures++) {
            PortraitYears x = new PortraitYears();
            due("so many", read(x, "g5,5;w1,1;" + "s1,1,0;".repeat(pictures)), pictures);
            due("the tape", x.count(7), 0);
            due("read again", x.house(), -1000100);
            due("PICTURES stay", x.count(2), pictures);
        }
        PortraitYears x = new PortraitYears();
        for (int n = 0; n < 100; n++) {
            x.feed('x');
        }
        x.house();
        due("a shorter text behind a longer one", read(x, "g1,1;w1,1;"), 0);
    }

    private static void houseFails() {
        promise(7, "-1000100 less the place of a FAULT: all stays, but the tape is empty then, and fault() tells this one.");
        PortraitYears x = told(FIVE);
        x.years(3);
        due("place 0", read(x, ""), -1000100);
        due("place 8", read(x, "g1,1;w1,"), -1000108);
        due("the tape", x.count(7), 0);
        due("fault()", x.fault(), 1);
        due("place 85", read(x, FULL_HOUSE + "s"), -1000185);
        due("the tape", x.count(7), 0);
        due("fault()", x.fault(), 3);
        due("YEAR", x.count(3), 3);
        due("ACTS", x.count(6), 3);
        due("WALLS", x.count(1), 3);
        due("PICTURES", x.count(2), 5);
        due("PURSE", x.count(4), 30);
        cells("all stays", x, 11, 18, 9, 13, 5);
        due("ROOM stays", x.hang(2, 0), FULL);
        due("LIGHT stays", x.wall(0, 0), 6);
        due("undo", x.undo(), 2);
    }

    private static void fault() {
        promise(8, "The number of the latest FAULT; 0 before one.");
        PortraitYears x = new PortraitYears();
        due("before one", x.fault(), 0);
        read(x, FIVE);
        due("a HOUSE is none", x.fault(), 0);
        read(x, "g0,");
        due("2", x.fault(), 2);
        due("2 again", x.fault(), 2);
        read(x, FIVE);
        due("the latest stays over a HOUSE", x.fault(), 2);
        read(x, "g1,5;" + "w1,1;".repeat(5));
        due("3", x.fault(), 3);
        x.image(0);
        x.recall(0);
        x.years(1);
        x.undo();
        due("it stays over other calls", x.fault(), 3);
        read(x, "x");
        due("1", x.fault(), 1);
    }
}
