/** ROWS: the first sentence of part 1, promises 2 to 5 and 33. */
final class RowsEdges extends Check {
    static void all() {
        rowsAtFirst();
        lanes();
        itemsAtFirst();
        row();
        rowRefused();
        set();
        setRefused();
        copy();
        copyOverItself();
        copyRefused();
        copyBeyond();
        drop();
        status();
        statusOfEachCall();
    }

    private static void rowsAtFirst() {
        term(1, "ROWS 0 .. 7 are missing (at first),");
        PortraitYears x = new PortraitYears();
        due("ROWS", x.count(0), 0);
        for (int row = 0; row <= 7; row++) {
            due("drop(" + row + ")", x.drop(row), NULL);
            due("set(" + row + ", 0, 1)", x.set(row, 0, 1), NULL);
        }
        due("drop(-1)", x.drop(-1), BAD);
        due("drop(8)", x.drop(8), BAD);
        for (int row = 0; row <= 7; row++) {
            due("row(" + row + ", 0, 1)", x.row(row, 0, 1), 1);
            due("ROWS", x.count(0), row + 1);
        }
    }

    private static void lanes() {
        term(1, "or have a LANE (0 bytes, 1 shorts, 2 ints)");
        PortraitYears x = new PortraitYears();
        int[] due = {64, -25536, 40000};
        for (int lane = 0; lane <= 2; lane++) {
            due("row of lane " + lane, x.row(lane, lane, 1), 1);
            due("40000 in lane " + lane, x.set(lane, 0, 40000), due[lane]);
        }
        due("lane -1", x.row(3, -1, 1), BAD);
        due("lane 3", x.row(3, 3, 1), BAD);
    }

    private static void itemsAtFirst() {
        term(1, "and 0 to 40 ITEMS, 0 at first.");
        PortraitYears x = new PortraitYears();
        due("no ITEMS", x.row(0, 0, 0), 0);
        due("place 0 of none", x.set(0, 0, 1), PLACE);
        due("40 ITEMS", x.row(1, 2, 40), 40);
        due("place 39", x.set(1, 39, 7), 7);
        due("place 40", x.set(1, 40, 7), PLACE);
        due("41 ITEMS", x.row(2, 2, 41), BAD);
        for (int i = 0; i < 40; i++) {
            x.set(1, i, 7);
        }
        due("40 ITEMS anew", x.row(1, 2, 40), 40);
        due("40 ITEMS of 7", x.row(7, 2, 40), 40);
        openEyes(x);
        for (int i = 0; i < 40; i++) {
            due("ITEM " + i + " of 1", item(x, 1, i), 0);
            due("ITEM " + i + " of 7", item(x, 7, i), 0);
        }
    }

    private static void row() {
        promise(2, "A ROW of a LANE with n ITEMS, in place of what is there: n.");
        PortraitYears x = new PortraitYears();
        due("the first", x.row(0, 2, 5), 5);
        due("the last", x.row(7, 2, 3), 3);
        for (int i = 0; i < 5; i++) {
            x.set(0, i, 11 + i);
        }
        due("fewer ITEMS", x.row(0, 1, 2), 2);
        due("place 2 is no more", x.set(0, 2, 1), PLACE);
        due("its LANE is another", x.set(0, 0, 32768), -32768);
        due("more ITEMS", x.row(0, 2, 5), 5);
        due("ROWS", x.count(0), 2);
        openEyes(x);
        items("made anew", x, 0, 0, 0, 0, 0, 0);
        x.set(0, 4, 9);
        due("none", x.row(0, 2, 0), 0);
        due("a ROW of none is there", x.count(0), 2);
        due("5 again", x.row(0, 2, 5), 5);
        due("what was there does not come again", item(x, 0, 4), 0);
        x.set(7, 0, 21);
        x.row(6, 2, 40);
        for (int i = 0; i < 40; i++) {
            x.set(6, i, 33);
        }
        items("the one beside stays", x, 7, 21, 0, 0);
    }

    private static void rowRefused() {
        promise(2, "BAD: ROW, LANE, n above 40;");
        PortraitYears x = new PortraitYears();
        int[] noRows = {LEAST, -1, 8, LARGEST};
        int[] noLanes = {LEAST, -1, 3, LARGEST};
        for (int no : noRows) {
            due("row " + no, x.row(no, 0, 1), BAD);
            due("row " + no + ", n -1", x.row(no, 0, -1), BAD);
        }
        for (int no : noLanes) {
            due("lane " + no, x.row(0, no, 1), BAD);
            due("lane " + no + ", n -1", x.row(0, no, -1), BAD);
        }
        due("n 40", x.row(0, 0, 40), 40);
        due("n 41", x.row(0, 0, 41), BAD);
        due("n largest", x.row(0, 0, LARGEST), BAD);
        due("40 are there yet", x.drop(0), 40);

        promise(2, "SIZE.");
        due("n 0", x.row(0, 0, 0), 0);
        due("n -1", x.row(0, 0, -1), SIZE);
        due("status", x.status(), 4);
        due("n least", x.row(1, 0, LEAST), SIZE);
        due("1 is missing yet", x.drop(1), NULL);
        due("0 has none yet", x.drop(0), 0);
    }

    private static void set() {
        promise(3, "ITEM i becomes v, its lowest bits, as many as the LANE has (read with their sign): what it is then.");
        PortraitYears x = new PortraitYears();
        x.row(0, 0, 2);
        x.row(1, 1, 2);
        x.row(2, 2, 2);
        int[][] bytes = {{0, 0}, {127, 127}, {128, -128}, {255, -1}, {256, 0}, {-128, -128}, {-129, 127}, {-1, -1},
            {LARGEST, -1}, {LEAST, 0}, {0x1234, 0x34}, {0x12ff80, -128}};
        int[][] shorts = {{127, 127}, {128, 128}, {32767, 32767}, {32768, -32768}, {65535, -1}, {65536, 0},
            {-32768, -32768}, {-32769, 32767}, {LARGEST, -1}, {LEAST, 0}, {0x12345678, 0x5678}, {0x7fff8000, -32768}};
        int[] ints = {0, 128, 32768, 65536, -1, LARGEST, LEAST};
        for (int[] pair : bytes) {
            due("byte of " + pair[0], x.set(0, 1, pair[0]), pair[1]);
        }
        for (int[] pair : shorts) {
            due("short of " + pair[0], x.set(1, 1, pair[0]), pair[1]);
        }
        for (int v : ints) {
            due("int of " + v, x.set(2, 1, v), v);
        }
        due("256 and 44 in a byte", x.set(0, 0, 300), 44);
        due("65536 and 44 in a short", x.set(1, 0, 65580), 44);
        due("44 in an int", x.set(2, 0, 44), 44);
        openEyes(x);
        for (int row = 0; row <= 2; row++) {
            due("it is so, " + row, item(x, row, 0), 44);
        }
    }

    private static void setRefused() {
        promise(3, "BAD: ROW;");
        PortraitYears x = new PortraitYears();
        x.row(0, 0, 3);
        int[] noRows = {LEAST, -1, 8, LARGEST};
        for (int no : noRows) {
            due("row " + no, x.set(no, 0, 1), BAD);
            due("row " + no + ", place -1", x.set(no, -1, 1), BAD);
        }

        promise(3, "NULL;");
        due("missing", x.set(7, 0, 1), NULL);
        due("missing, no such place", x.set(7, -1, 1), NULL);
        due("missing, place 40", x.set(7, 40, 1), NULL);
        due("status", x.status(), 1);

        promise(3, "PLACE.");
        due("place 2", x.set(0, 2, 1), 1);
        int[] noPlaces = {LEAST, -1, 3, 39, 40, LARGEST};
        for (int no : noPlaces) {
            due("place " + no, x.set(0, no, 1), PLACE);
            due("status", x.status(), 2);
        }
        x.row(1, 0, 0);
        due("place 0 of none", x.set(1, 0, 1), PLACE);
        openEyes(x);
        items("nothing else was set", x, 0, 0, 0, 1);
    }

    private static void copy() {
        promise(4, "n ITEMS of a from i on come to b from j on,");
        PortraitYears x = new PortraitYears();
        fill(x, 0, 1, 2, 3, 4, 5);
        fill(x, 1, 11, 12, 13);
        openEyes(x);
        due("two of the midst", x.copy(0, 1, 1, 0, 2), 2);
        items("two came", x, 1, 2, 3, 13);
        items("they are there yet", x, 0, 1, 2, 3, 4, 5);
        due("all of 1 to the end of 0", x.copy(1, 0, 0, 2, 3), 3);
        items("three came", x, 0, 1, 2, 2, 3, 13);
        due("the last one", x.copy(0, 4, 1, 0, 1), 1);
        items("one came", x, 1, 13, 3, 13);
        due("none", x.copy(0, 0, 1, 0, 0), 0);
        due("none, behind the last ones", x.copy(0, 5, 1, 3, 0), 0);
        items("none came", x, 1, 13, 3, 13);
        x.row(2, 0, 0);
        due("none of none", x.copy(2, 0, 2, 0, 0), 0);
        x.row(3, 0, 40);
        x.row(4, 0, 40);
        x.set(3, 39, 8);
        due("all 40", x.copy(3, 0, 4, 0, 40), 40);
        due("the 40th came", item(x, 4, 39), 8);
        due("the first came", item(x, 4, 0), 0);
    }

    private static void copyOverItself() {
        promise(4, "as they were ahead: n.");
        PortraitYears x = new PortraitYears();
        fill(x, 0, 1, 2, 3, 4, 5);
        openEyes(x);
        due("upwards", x.copy(0, 0, 0, 1, 4), 4);
        items("upwards", x, 0, 1, 1, 2, 3, 4);
        due("downwards", x.copy(0, 1, 0, 0, 4), 4);
        items("downwards", x, 0, 1, 2, 3, 4, 4);
        due("where they are", x.copy(0, 0, 0, 0, 5), 5);
        items("where they are", x, 0, 1, 2, 3, 4, 4);
        due("two upwards", x.copy(0, 0, 0, 2, 3), 3);
        items("two upwards", x, 0, 1, 2, 1, 2, 3);
    }

    private static void copyRefused() {
        PortraitYears x = new PortraitYears();
        x.row(0, 0, 4);
        x.row(1, 1, 4);
        promise(4, "BAD: ROWS;");
        int[] noRows = {LEAST, -1, 8, LARGEST};
        for (int no : noRows) {
            due("a is " + no, x.copy(no, 0, 0, 0, 1), BAD);
            due("b is " + no, x.copy(0, 0, no, 0, 1), BAD);
            due("b is " + no + ", a is missing", x.copy(5, 0, no, 0, 1), BAD);
            due("a is " + no + ", n -1", x.copy(no, 0, 0, 0, -1), BAD);
        }

        promise(4, "NULL;");
        due("a is missing", x.copy(5, 0, 0, 0, 1), NULL);
        due("b is missing", x.copy(0, 0, 5, 0, 1), NULL);
        due("both are missing", x.copy(5, 0, 6, 0, 0), NULL);
        due("b is missing, no such place", x.copy(0, -1, 5, 0, 1), NULL);
        due("a is missing, n -1", x.copy(5, 0, 0, 0, -1), NULL);
        due("status", x.status(), 1);

        promise(4, "STORE;");
        due("two LANES", x.copy(0, 0, 1, 0, 1), STORE);
        due("two LANES, none", x.copy(1, 0, 0, 0, 0), STORE);
        due("two LANES, no such place", x.copy(0, -1, 1, 0, 1), STORE);
        due("two LANES, n -1", x.copy(0, 0, 1, 0, -1), STORE);
        due("two LANES, beyond an end", x.copy(0, 0, 1, 0, 99), STORE);
        due("status", x.status(), 5);
        x.row(2, 2, 4);
        due("shorts and ints", x.copy(1, 0, 2, 0, 1), STORE);
        due("bytes and ints", x.copy(2, 0, 0, 0, 1), STORE);
    }

    private static void copyBeyond() {
        promise(4, "PLACE (i, j, n below 0, or beyond an end).");
        PortraitYears x = new PortraitYears();
        fill(x, 0, 1, 2, 3, 4);
        fill(x, 1, 11, 12, 13);
        int[] noPlaces = {LEAST, -1, 5, 40, LARGEST};
        for (int no : noPlaces) {
            due("i is " + no + ", none", x.copy(0, no, 1, 0, 0), PLACE);
            due("j is " + no + ", none", x.copy(1, 0, 0, no, 0), PLACE);
            due("i is " + no, x.copy(0, no, 1, 0, 1), PLACE);
            due("j is " + no, x.copy(1, 0, 0, no, 1), PLACE);
            due("n is " + no, x.copy(0, 0, 0, 0, no), PLACE);
        }
        due("status", x.status(), 2);
        due("i at the end", x.copy(0, 4, 1, 0, 1), PLACE);
        due("j at the end", x.copy(0, 0, 1, 3, 1), PLACE);
        due("beyond the end of a", x.copy(1, 1, 0, 0, 3), PLACE);
        due("beyond the end of b", x.copy(0, 0, 1, 0, 4), PLACE);
        due("i and n wrap around", x.copy(0, 1, 0, 0, LARGEST), PLACE);
        due("j and n wrap around", x.copy(0, 0, 0, LARGEST, 1), PLACE);
        due("i and n are both largest", x.copy(0, LARGEST, 0, LARGEST, LARGEST), PLACE);
        openEyes(x);
        items("a stays", x, 0, 1, 2, 3, 4);
        items("b stays", x, 1, 11, 12, 13);
    }

    private static void drop() {
        promise(5, "A ROW is missing from now on: how many ITEMS it had.");
        PortraitYears x = new PortraitYears();
        x.row(0, 1, 40);
        x.row(7, 0, 0);
        x.row(3, 2, 1);
        due("40", x.drop(0), 40);
        due("none", x.drop(7), 0);
        due("one ROW yet", x.count(0), 1);
        due("set of a missing one", x.set(0, 0, 1), NULL);
        due("copy of a missing one", x.copy(7, 0, 7, 0, 0), NULL);
        due("made again", x.row(0, 0, 2), 2);
        due("with so many", x.drop(0), 2);

        promise(5, "BAD;");
        int[] noRows = {LEAST, -1, 8, LARGEST};
        for (int no : noRows) {
            due("row " + no, x.drop(no), BAD);
        }

        promise(5, "NULL.");
        due("missing", x.drop(1), NULL);
        due("dropped", x.drop(0), NULL);
        due("status", x.status(), 1);
        due("the last one", x.drop(3), 1);
        due("the last one again", x.drop(3), NULL);
        due("no ROW", x.count(0), 0);
    }

    private static void status() {
        promise(33, "Of the latest call with a ROW, or as(), that was not BAD, STATE, FULL:");
        PortraitYears x = told(FIVE);
        x.row(0, 0, 2);
        x.set(0, 2, 0);
        due("PLACE", x.status(), 2);
        due("itself tells the same again", x.status(), 2);
        x.row(8, 0, 1);
        x.row(0, 3, 1);
        x.row(0, 0, 41);
        x.set(8, 0, 0);
        x.copy(0, 0, 8, 0, 0);
        x.drop(-1);
        x.fits(5, 0, 0, 1, 0);
        x.fits(0, 8, 0, 1, 0);
        x.fits(0, 0, 0, 0, 0);
        x.fits(0, 0, 0, 17, 0);
        x.fits(0, 0, 0, 1, 4);
        x.as(5, 0);
        x.as(0, 6);
        due("BAD ones leave it", x.status(), 2);
        x.deed(4, 60);
        x.deed(4, 1);
        x.hang(0, 0);
        x.hang(2, 0);
        x.undo();
        x.years(1);
        x.feed('g');
        x.house();
        x.picture(0, 0);
        x.lives(3);
        x.image(0);
        x.recall(0);
        x.recall(1);
        x.ask(0, 0);
        x.trace(0);
        x.kind(0);
        x.count(0);
        due("calls without a ROW leave it", x.status(), 2);
        read(x, FIVE);
        due("another HOUSE leaves it", x.status(), 2);
    }

    private static void statusOfEachCall() {
        promise(33, "the number of its FINDING; 0: it had none, or there was none.");
        PortraitYears x = new PortraitYears();
        due("there was none", x.status(), 0);
        x.row(8, 0, 1);
        due("BAD alone", x.status(), 0);
        x.drop(0);
        due("drop, NULL", x.status(), 1);
        x.row(0, 0, 2);
        due("row had none", x.status(), 0);
        x.row(1, 1, -1);
        due("row, SIZE", x.status(), 4);
        x.set(0, 1, 0);
        due("set had none", x.status(), 0);
        x.set(0, 2, 0);
        due("set, PLACE", x.status(), 2);
        x.copy(0, 0, 0, 0, 0);
        due("copy had none", x.status(), 0);
        x.row(1, 1, 1);
        x.copy(0, 0, 1, 0, 0);
        due("copy, STORE", x.status(), 5);
        x.drop(1);
        due("drop had none", x.status(), 0);
        x.copy(0, 0, 1, 0, 0);
        due("copy, NULL", x.status(), 1);
        read(x, FIVE);
        x.as(0, 1);
        due("as had none", x.status(), 0);
        x.as(0, 2);
        due("as, KIND", x.status(), 3);
        x.fits(0, 0, 0, 2, 0);
        due("fits had none", x.status(), 0);
        x.fits(0, 0, 0, 3, 0);
        due("fits, PLACE", x.status(), 2);
        x.fits(0, 1, 0, 1, 0);
        due("fits, NULL", x.status(), 1);
    }
}
