/** What is looked at: promises 14, 15 and 32. */
final class LookedEdges extends Check {
    static void all() {
        picture();
        fadesNow();
        pictureRefused();
        wall();
        count();
    }

    private static void picture() {
        promise(14, "Of a PICTURE: 0 SKILL, 1 CELLS, 2 the WALL, 3 whether he LIVES (1, 0),");
        PortraitYears x = told(FIVE);
        int[][] due = {{3, 20, 0, 1}, {5, 30, 0, 1}, {4, 12, 2, 1}, {2, 25, 1, 1}, {1, 5, 1, 1}};
        for (int p = 0; p < 5; p++) {
            for (int what = 0; what < 4; what++) {
                due("picture(" + p + ", " + what + ")", x.picture(p, what), due[p][what]);
            }
        }
        x.deed(1, 29);
        due("one CELL", x.picture(1, 1), 1);
        due("LIVES by one CELL", x.picture(1, 3), 1);
        x.deed(1, 1);
        due("no CELL", x.picture(1, 1), 0);
        due("DEAD", x.picture(1, 3), 0);
        due("SKILL of the DEAD", x.picture(1, 0), 5);
        due("WALL of the DEAD", x.picture(1, 2), 0);
    }

    private static void fadesNow() {
        promise(14, "4 by how many CELLS it FADES in this YEAR (not cut at 0).");
        PortraitYears x = told(FIVE);
        int[] due = {3, 4, 3, 4, 0};
        for (int p = 0; p < 5; p++) {
            due("picture(" + p + ", 4)", x.picture(p, 4), due[p]);
        }
        x.years(1);
        due("unsigned in YEAR 1", x.picture(2, 4), 0);
        x.years(3);
        due("unsigned in YEAR 4", x.picture(2, 4), 3);
        x.deed(1, 13);
        due("one CELL", x.picture(1, 1), 1);
        due("4 of one CELL", x.picture(1, 4), 4);
        x.deed(0, 60);
        due("3 of no CELL", x.picture(0, 4), 3);
    }

    private static void pictureRefused() {
        promise(14, "BAD.");
        PortraitYears x = told(FIVE);
        int[] noPictures = {LEAST, -1, 5, LARGEST};
        int[] noWhats = {LEAST, -1, 5, LARGEST};
        for (int no : noPictures) {
            due("picture " + no, x.picture(no, 0), BAD);
        }
        for (int no : noWhats) {
            due("what " + no, x.picture(0, no), BAD);
        }
        due("no HOUSE", new PortraitYears().picture(0, 0), BAD);
        due("none painted", told("g1,1;w1,1;").picture(0, 0), BAD);
    }

    private static void wall() {
        promise(15, "Of a WALL: 0 LIGHT, 1 DAMP, 2 PICTURES (bits) that hang there.");
        PortraitYears x = told(FIVE);
        int[][] due = {{6, 3, 3}, {0, 9, 24}, {9, 0, 4}};
        for (int w = 0; w < 3; w++) {
            for (int what = 0; what < 3; what++) {
                due("wall(" + w + ", " + what + ")", x.wall(w, what), due[w][what]);
            }
        }
        x.deed(2, 60);
        due("the DEAD hang there", x.wall(2, 2), 4);
        x.hang(0, 2);
        due("one came", x.wall(2, 2), 5);
        due("one went", x.wall(0, 2), 2);
        x.hang(1, 2);
        due("a WALL without ROOM", x.wall(2, 2), 5);
        due("none there", told("g1,1;w1,1;").wall(0, 2), 0);
        due("all there", told("g5,1;w1,1;" + "s1,1,0;".repeat(5)).wall(0, 2), 31);

        promise(15, "BAD.");
        int[] noWalls = {LEAST, -1, 3, 4, LARGEST};
        int[] noWhats = {LEAST, -1, 3, LARGEST};
        for (int no : noWalls) {
            due("wall " + no, x.wall(no, 0), BAD);
        }
        for (int no : noWhats) {
            due("what " + no, x.wall(0, no), BAD);
        }
        due("no HOUSE", new PortraitYears().wall(0, 0), BAD);
        due("wall 4 of 4", told("g1,1;" + "w1,1;".repeat(4)).wall(4, 0), BAD);
    }

    private static void count() {
        promise(32, "How many: 0 ROWS, 1 WALLS, 2 PICTURES, 3 the YEAR, 4 PURSE, 5 who LIVES (bits), "
            + "6 ACTS that can be undone, 7 bytes on the tape.");
        PortraitYears x = new PortraitYears();
        for (int what = 0; what <= 7; what++) {
            due("count(" + what + ") of a new object", x.count(what), 0);
        }
        read(x, FIVE);
        x.row(2, 0, 1);
        x.row(5, 1, 0);
        x.feed('g');
        x.years(2);
        x.restore(0, 4);
        x.deed(3, 60);
        int[] due = {2, 3, 5, 2, 26, 23, 4, 1};
        for (int what = 0; what <= 7; what++) {
            due("count(" + what + ")", x.count(what), due[what]);
        }

        promise(32, "BAD.");
        int[] noWhats = {LEAST, -1, 8, LARGEST};
        for (int no : noWhats) {
            due("count(" + no + ")", x.count(no), BAD);
            due("count(" + no + "), no HOUSE", new PortraitYears().count(no), BAD);
        }
    }
}
