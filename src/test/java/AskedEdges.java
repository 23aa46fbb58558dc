/** KINDS, ASKS and THE TRACE: the end of part 3, part 4, promises 28 to 31. */
final class AskedEdges extends Check {
    private static final int[] NO_PICTURES = {LEAST, -1, 5, LARGEST};

    static void all() {
        kinds();
        bodiesOfSize();
        bodiesOfMark();
        nearest();
        kind();
        as();
        ask();
        askRefused();
        trace();
    }

    private static void asked(PortraitYears x, int p, int what, int due, int... bodies) {
        String call = "ask(" + p + ", " + what + ")";
        due(call, x.ask(p, what), due);
        for (int i = 0; i <= 16; i++) {
            due(call + ", trace(" + i + ")", x.trace(i), i < bodies.length ? bodies[i] : NONE);
        }
    }

    private static void kinds() {
        term(3, "KINDS of PICTURES: 0 PICTURE; 1 OIL, a PICTURE; 2 COPY, an OIL; 3 UNSIGNED, an OIL; 4 PENCIL, a PICTURE; "
            + "5 SHADE, a PENCIL. By this it is asked.");
        PortraitYears x = told(FIVE);
        // Which KINDS (bits) each of the five is.
        int[] is = {1 | 2, 1 | 2 | 4, 1 | 2 | 8, 1 | 16, 1 | 16 | 32};
        for (int p = 0; p < 5; p++) {
            for (int kind = 0; kind <= 5; kind++) {
                boolean such = (is[p] >> kind & 1) == 1;
                due("as(" + p + ", " + kind + ")", x.as(p, kind), such ? p : KIND);
            }
        }
    }

    private static void bodiesOfSize() {
        term(4, "ASKS of PICTURES, by BODIES, each of which leaves its number in THE TRACE as it begins (the first 16): "
            + "0 SIZE: 10 lent to all PICTURES: SKILL. 11 of OILS: what 10 gives, and MARK. "
            + "12 of COPIES: 0 less what 11 gives. 13 of PENCILS: what 10 gives, less 100. "
            + "14 of SHADES: twice what 13 gives (asked once).");
        PortraitYears x = told(FIVE);
        asked(x, 0, 0, 3 + 20, 11, 10, 21, 20);
        asked(x, 1, 0, -(5 + 2 * 31), 12, 11, 10, 24, 21, 20);
        asked(x, 2, 0, 4 + 14 - 1000, 11, 10, 22, 21, 20);
        asked(x, 3, 0, 2 - 100, 13, 10);
        asked(x, 4, 0, 2 * (1 - 100), 14, 13, 10);
    }

    private static void bodiesOfMark() {
        term(4, "1 MARK: 20 lent to all PICTURES: the number. 21 of OILS: what 20 gives, and CELLS. "
            + "22 of UNSIGNED ones: what 21 gives, less 1000. 23 of PENCILS: what 20 gives, less SIZE. "
            + "24 of COPIES: twice what 21 gives (asked once).");
        PortraitYears x = told(FIVE);
        asked(x, 0, 1, 20, 21, 20);
        asked(x, 1, 1, 62, 24, 21, 20);
        asked(x, 2, 1, 14 - 1000, 22, 21, 20);
        asked(x, 3, 1, 3 + 98, 23, 20, 13, 10);
        asked(x, 4, 1, 4 + 198, 23, 20, 14, 13, 10);
        x.years(1);
        asked(x, 1, 1, 2 * 27, 24, 21, 20);
        x.deed(1, 60);
        asked(x, 1, 1, 2, 24, 21, 20);
    }

    private static void nearest() {
        term(4, "(Of an ask the BODY told for the KIND begins, else that of the nearest KIND that it is, too, "
            + "else the one that is lent; SIZE, MARK within others are asked of the same PICTURE anew.)");
        // The same SORTS by other numbers: none of them hangs by its number.
        PortraitYears x = told("g5,0;w0,0;s9,60,0;p8,1,0;u7,2,0;c6,3,0;o5,4,0;");
        asked(x, 0, 0, 2 * (9 - 100), 14, 13, 10);
        asked(x, 0, 1, 0 + 182, 23, 20, 14, 13, 10);
        asked(x, 1, 0, 8 - 100, 13, 10);
        asked(x, 1, 1, 1 + 92, 23, 20, 13, 10);
        asked(x, 2, 0, 7 + 4 - 1000, 11, 10, 22, 21, 20);
        asked(x, 2, 1, 4 - 1000, 22, 21, 20);
        asked(x, 3, 0, -(6 + 2 * 6), 12, 11, 10, 24, 21, 20);
        asked(x, 3, 1, 12, 24, 21, 20);
        asked(x, 4, 0, 5 + 8, 11, 10, 21, 20);
        asked(x, 4, 1, 8, 21, 20);
    }

    private static void kind() {
        promise(28, "The KIND of a PICTURE, as told (1 to 5).");
        PortraitYears x = told(FIVE);
        for (int p = 0; p < 5; p++) {
            due("kind(" + p + ")", x.kind(p), p + 1);
        }
        x.deed(3, 60);
        due("of the DEAD", x.kind(3), 4);

        promise(28, "BAD.");
        for (int no : NO_PICTURES) {
            due("kind(" + no + ")", x.kind(no), BAD);
        }
        due("no HOUSE", new PortraitYears().kind(0), BAD);
        due("none painted", told("g1,1;w1,1;").kind(0), BAD);
    }

    private static void as() {
        promise(29, "A PICTURE is taken as one of a KIND (0 .. 5): the PICTURE's number.");
        PortraitYears x = told(FIVE);
        for (int p = 0; p < 5; p++) {
            due("as a PICTURE", x.as(p, 0), p);
            due("as what it is", x.as(p, p + 1), p);
            due("status", x.status(), 0);
        }
        due("KIND stays", x.kind(1), 2);

        promise(29, "BAD;");
        int[] noKinds = {LEAST, -1, 6, LARGEST};
        for (int no : NO_PICTURES) {
            due("picture " + no, x.as(no, 0), BAD);
        }
        for (int no : noKinds) {
            due("kind " + no, x.as(0, no), BAD);
        }
        due("no HOUSE", new PortraitYears().as(0, 0), BAD);

        promise(29, "KIND: it is no such one.");
        due("an OIL as a COPY", x.as(0, 2), KIND);
        due("status", x.status(), 3);
        due("a COPY as an UNSIGNED one", x.as(1, 3), KIND);
        due("an OIL as a SHADE", x.as(0, 5), KIND);
        due("a PENCIL as a SHADE", x.as(3, 5), KIND);
        due("a SHADE as an OIL", x.as(4, 1), KIND);
        due("a COPY as a PENCIL", x.as(1, 4), KIND);
    }

    private static void ask() {
        promise(30, "An ASK (0, 1) of a PICTURE.");
        PortraitYears x = told("g5,0;w0,0;o9,60,0;");
        due("SIZE", x.ask(0, 0), 69);
        due("MARK", x.ask(0, 1), 60);
        x.deed(0, 60);
        due("SIZE of the DEAD", x.ask(0, 0), 9);
        due("MARK of the DEAD", x.ask(0, 1), 0);
    }

    private static void askRefused() {
        promise(30, "BAD (THE TRACE stays then).");
        PortraitYears x = told(FIVE);
        int[] noAsks = {LEAST, -1, 2, LARGEST};
        x.ask(0, 1);
        for (int no : noAsks) {
            due("ask(0, " + no + ")", x.ask(0, no), BAD);
        }
        for (int no : NO_PICTURES) {
            due("ask(" + no + ", 0)", x.ask(no, 0), BAD);
        }
        due("trace(0)", x.trace(0), 21);
        due("trace(1)", x.trace(1), 20);
        due("trace(2)", x.trace(2), NONE);
        due("no HOUSE", new PortraitYears().ask(0, 0), BAD);

        promise(30, "THE TRACE is empty ahead of it.");
        x.ask(1, 0);
        due("six BODIES", x.trace(5), 20);
        x.ask(3, 0);
        due("trace(0)", x.trace(0), 13);
        due("trace(1)", x.trace(1), 10);
        for (int i = 2; i <= 16; i++) {
            due("trace(" + i + ")", x.trace(i), NONE);
        }
    }

    private static void trace() {
        promise(31, "Number i of THE TRACE; NONE.");
        PortraitYears x = told(FIVE);
        due("ahead of any", x.trace(0), NONE);
        x.ask(1, 0);
        int[] bodies = {12, 11, 10, 24, 21, 20};
        for (int i = 0; i < bodies.length; i++) {
            due("trace(" + i + ")", x.trace(i), bodies[i]);
        }
        int[] noPlaces = {LEAST, -1, 6, 15, 16, LARGEST};
        for (int no : noPlaces) {
            due("trace(" + no + ")", x.trace(no), NONE);
        }
        x.years(1);
        x.undo();
        x.image(0);
        x.recall(0);
        read(x, "g1,1;w1,1;");
        due("it stays over other calls", x.trace(5), 20);
    }
}
