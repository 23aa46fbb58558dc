import java.util.ArrayList;
import java.util.List;

/** The head of "Terms", what is left free, and what changes nothing. */
final class RefusedEdges extends Check {
    /** A call on an object. */
    private interface Call {
        int on(PortraitYears x);
    }

    static void all() {
        fromZero();
        divided();
        bits();
        order();
        firstInTime();
        numbers();
        refusedChangesNothing();
        refusedFull();
        foundChangesNothing();
        faultChangesNothing();
        foretoldChangesNothing();
        beyondTheCalls();
        free();
    }

    private static void fromZero() {
        term(0, "Numbers go from 0 on.");
        PortraitYears x = told(FIVE);
        x.ask(0, 0);
        due("the first PICTURE", x.picture(0, 1), 20);
        due("none ahead of it", x.picture(-1, 1), BAD);
        due("the last PICTURE", x.picture(4, 1), 5);
        due("the first WALL", x.wall(0, 0), 6);
        due("none ahead of it", x.wall(-1, 0), BAD);
        due("the last WALL", x.wall(2, 0), 9);
        due("the first ROW", x.row(0, 0, 1), 1);
        due("none ahead of it", x.row(-1, 0, 1), BAD);
        due("the first ITEM", x.set(0, 0, 5), 5);
        due("the first of THE TRACE", x.trace(0), 11);
    }

    private static void divided() {
        term(0, "All that is divided is cut towards 0, but fractions, told as two numbers in lowest terms (0 is 0 by 1).");
        due("9 by 5", told("g1,0;w9,0;o5,9,0;").picture(0, 4), 1 + 1);
        due("4 by 5", told("g1,0;w4,0;o5,9,0;").picture(0, 4), 1);
        due("half of 9", told("g1,0;w4,9;p5,9,0;").picture(0, 4), 4);
        due("half of 1", told("g1,0;w4,1;p5,9,0;").picture(0, 4), 0);
        PortraitYears x = told("g2,0;w0,0;s1,1,0;s1,1,0;");
        due("25 by 100, above", x.thieves(2, 0, 5, 0), 1);
        due("25 by 100, below", x.thieves(2, 0, 5, 1), 4);
        due("0, above", x.thieves(3, 0, 5, 0), 0);
        due("0, below", x.thieves(3, 0, 5, 1), 1);
        due("1, above", x.thieves(0, 0, 5, 0), 1);
        due("1, below", x.thieves(0, 0, 5, 1), 1);
        due("49 by 100, above", x.thieves(2, 0, 3, 0), 49);
        due("49 by 100, below", x.thieves(2, 0, 3, 1), 100);
    }

    private static void bits() {
        term(0, "Sets are bits.");
        PortraitYears x = told(FIVE);
        x.deed(1, 60);
        due("PICTURES 0, 2, 3 and 4", x.count(5), 1 | 4 | 8 | 16);
        due("told so", x.save(1 | 4 | 8 | 16, 0), 0);
        due("PICTURE 1 alone", x.save(2, 0), NONE);
        due("on WALL 1: 3 and 4", x.wall(1, 2), 8 | 16);
    }

    private static void order() {
        term(0, "Refusals are answers, the first of these that fits, but as told: BAD (a number is not as told; "
            + "there is no such thing), STATE (as told), FULL (as told), then FINDINGS,");
        PortraitYears x = told(FIVE);
        x.deed(4, 60);
        due("BAD ahead of STATE, deed", x.deed(4, 61), BAD);
        due("BAD ahead of STATE, restore", x.restore(4, 0), BAD);
        due("BAD ahead of STATE, image", new PortraitYears().image(2), BAD);
        due("BAD ahead of STATE, recall", x.recall(2), BAD);
        due("BAD ahead of FULL, hang", x.hang(5, 0), BAD);
        due("STATE ahead of FULL, hang", x.hang(0, 0), STATE);
        due("BAD ahead of SIZE", x.row(8, 0, -1), BAD);
        due("BAD ahead of NULL, copy", x.copy(0, 0, 8, 0, 0), BAD);
        due("BAD ahead of NULL, fits", x.fits(0, 0, 0, 17, 0), BAD);
        due("BAD ahead of KIND", x.as(5, 5), BAD);
        due("as told: STATE ahead of BAD", new PortraitYears().years(0), STATE);
        due("there is no such thing", x.picture(5, 0), BAD);
    }

    private static void firstInTime() {
        term(0, "of several the first in time:");
        PortraitYears x = told(FIVE);
        x.row(0, 0, 1);
        x.row(1, 1, 1);
        due("NULL ahead of PLACE, set", x.set(2, 9, 0), NULL);
        due("NULL ahead of PLACE, copy", x.copy(2, 9, 0, 9, 9), NULL);
        due("NULL ahead of PLACE, fits", x.fits(0, 2, 9, 1, 0), NULL);
        due("STORE ahead of PLACE", x.copy(0, 9, 1, 9, 9), STORE);
    }

    private static void numbers() {
        term(0, "-1000010 less 1 NULL (a ROW that is missing), 2 PLACE (no such place of a ROW), "
            + "3 KIND (a PICTURE that is not that), 4 SIZE (fewer than none), 5 STORE (ROWS of two LANES).");
        PortraitYears x = told(FIVE);
        x.row(0, 0, 1);
        x.row(1, 1, 1);
        due("NULL", x.drop(2), -1000011);
        due("its number", x.status(), 1);
        due("PLACE", x.set(0, 1, 0), -1000012);
        due("its number", x.status(), 2);
        due("KIND", x.as(0, 5), -1000013);
        due("its number", x.status(), 3);
        due("SIZE", x.row(0, 0, -1), -1000014);
        due("its number", x.status(), 4);
        due("STORE", x.copy(0, 0, 1, 0, 1), -1000015);
        due("its number", x.status(), 5);
    }

    /** An object with something of all: ROWS, an IMAGE, a FAULT, a FINDING, ACTS, bytes, a TRACE, somebody DEAD. */
    private static PortraitYears scene() {
        PortraitYears x = new PortraitYears();
        read(x, "g0");
        read(x, FIVE);
        x.years(2);
        x.image(0);
        x.deed(4, 60);
        x.restore(1, 3);
        x.hang(1, 2);
        x.years(1);
        fill(x, 0, 3, 1, 4);
        x.row(1, 1, 2);
        x.set(1, 1, 2);
        x.row(2, 0, 0);
        x.ask(1, 0);
        x.feed('g');
        x.feed('1');
        x.set(0, 3, 0);
        return x;
    }

    /** All that calls can tell of a scene; the object is used up by that. status() comes first. */
    private static List<String> tellAll(PortraitYears x) {
        List<String> all = new ArrayList<>();
        all.add("status " + x.status());
        all.add("fault " + x.fault());
        for (int what = 0; what <= 7; what++) {
            all.add("count " + what + ": " + x.count(what));
        }
        for (int i = 0; i < 7; i++) {
            all.add("trace " + i + ": " + x.trace(i));
        }
        tellHouse(x, all);
        for (int left = x.undo(); left >= 0; left = x.undo()) {
            all.add("undone, yet " + left + ", YEAR " + x.count(3) + ", PURSE " + x.count(4));
            for (int p = 0; p < 5; p++) {
                all.add("CELLS " + x.picture(p, 1) + ", WALL " + x.picture(p, 2));
            }
        }
        for (int k = 0; k <= 1; k++) {
            all.add("recall " + k + ": " + x.recall(k));
            tellHouse(x, all);
        }
        for (int row = 0; row <= 3; row++) {
            for (int i = 0; i < 4; i++) {
                all.add("row " + row + ", place " + i + ": " + x.fits(4, row, i, 1, 3));
            }
            all.add("its LANE: " + x.set(row, 0, 70000) + ", ITEMS: " + x.drop(row));
        }
        all.add("the tape: " + x.house() + ", " + x.fault());
        return all;
    }

    private static void tellHouse(PortraitYears x, List<String> all) {
        all.add("YEAR " + x.count(3) + ", PURSE " + x.count(4));
        for (int p = 0; p < 5; p++) {
            for (int what = 0; what <= 4; what++) {
                all.add("picture " + p + ", " + what + ": " + x.picture(p, what));
            }
            all.add("kind of " + p + ": " + x.kind(p));
        }
        for (int w = 0; w < 4; w++) {
            for (int what = 0; what <= 2; what++) {
                all.add("wall " + w + ", " + what + ": " + x.wall(w, what));
            }
        }
    }

    /** Behind a call all that can be told is as it was without it, but what is put in place of it here. */
    private static void leaves(String what, PortraitYears x, List<String> before, int status) {
        List<String> due = new ArrayList<>(before);
        due.set(0, "status " + status);
        List<String> got = tellAll(x);
        due(what + ", as much is told", got.size(), due.size());
        for (int i = 0; i < due.size() && i < got.size(); i++) {
            holds(what + " leaves " + due.get(i) + ", not " + got.get(i), due.get(i).equals(got.get(i)));
        }
    }

    private static void refused(String what, Call call, int answer) {
        PortraitYears x = scene();
        due(what, call.on(x), answer);
        leaves(what, x, tellAll(scene()), 2);
    }

    private static void refusedChangesNothing() {
        term(0, "What is refused, or found, changes nothing but status().");
        refused("row BAD", x -> x.row(0, 3, 1), BAD);
        refused("row BAD, 41", x -> x.row(0, 0, 41), BAD);
        refused("set BAD", x -> x.set(8, 0, 1), BAD);
        refused("copy BAD", x -> x.copy(0, 0, 8, 0, 1), BAD);
        refused("drop BAD", x -> x.drop(8), BAD);
        refused("feed BAD", x -> x.feed(256), BAD);
        refused("years BAD", x -> x.years(25), BAD);
        refused("deed BAD", x -> x.deed(0, 61), BAD);
        refused("deed STATE", x -> x.deed(4, 1), STATE);
        refused("restore BAD", x -> x.restore(0, 0), BAD);
        refused("restore STATE, DEAD", x -> x.restore(4, 1), STATE);
        refused("restore STATE, PURSE", x -> x.restore(0, 40), STATE);
        refused("hang BAD", x -> x.hang(0, 3), BAD);
        refused("hang STATE", x -> x.hang(0, 0), STATE);
        refused("hang FULL", x -> x.hang(0, 2), FULL);
        refused("picture BAD", x -> x.picture(0, 5), BAD);
        refused("wall BAD", x -> x.wall(3, 0), BAD);
        refused("remains BAD", x -> x.remains(0, 61), BAD);
        refused("lives BAD", x -> x.lives(61), BAD);
        refused("dies BAD", x -> x.dies(5), BAD);
        refused("first BAD", x -> x.first(2), BAD);
        refused("hanging BAD", x -> x.hanging(0, 5), BAD);
        refused("save BAD", x -> x.save(32, 0), BAD);
        refused("save NONE", x -> x.save(16, 0), NONE);
        refused("dark BAD", x -> x.dark(61, 0), BAD);
        refused("fits BAD", x -> x.fits(0, 0, 0, 17, 0), BAD);
        refused("thieves BAD", x -> x.thieves(6, 0, 0, 0), BAD);
        refused("drawn BAD", x -> x.drawn(0, 0, 0), BAD);
        refused("image BAD", x -> x.image(2), BAD);
        refused("recall BAD", x -> x.recall(2), BAD);
        refused("recall STATE", x -> x.recall(1), STATE);
        refused("kind BAD", x -> x.kind(5), BAD);
        refused("as BAD", x -> x.as(0, 6), BAD);
        refused("ask BAD", x -> x.ask(0, 2), BAD);
        refused("trace NONE", x -> x.trace(6), NONE);
        refused("count BAD", x -> x.count(8), BAD);
    }

    /** The two kinds of FULL that a scene is not near to. */
    private static void refusedFull() {
        PortraitYears tape = told("g1,5;w1,1;s1,9,0;");
        PortraitYears twin = told("g1,5;w1,1;s1,9,0;");
        for (int n = 0; n < 100; n++) {
            tape.feed(n == 0 ? 'g' : '0');
            twin.feed(n == 0 ? 'g' : '0');
        }
        due("feed FULL", tape.feed('x'), FULL);
        leaves("feed FULL", tape, tellAll(twin), 0);
        PortraitYears old = told(FIVE);
        PortraitYears oldTwin = told(FIVE);
        for (int i = 0; i < 41; i++) {
            old.years(24);
            oldTwin.years(24);
        }
        due("years FULL", old.years(24), FULL);
        due("YEAR", old.count(3), oldTwin.count(3));
        due("ACTS", old.count(6), oldTwin.count(6));
        due("undo", old.undo(), oldTwin.undo());
        due("YEAR then", old.count(3), oldTwin.count(3));
        PortraitYears none = new PortraitYears();
        due("undo STATE", none.undo(), STATE);
        due("image STATE", none.image(0), STATE);
        due("none was kept", none.recall(0), STATE);
    }

    private static void found(String what, Call call, int answer) {
        PortraitYears x = scene();
        due(what, call.on(x), answer);
        leaves(what, x, tellAll(scene()), -1000010 - answer);
    }

    private static void foundChangesNothing() {
        found("row SIZE", x -> x.row(0, 0, -1), SIZE);
        found("row SIZE of a missing one", x -> x.row(3, 0, -1), SIZE);
        found("set NULL", x -> x.set(3, 0, 1), NULL);
        found("set PLACE", x -> x.set(0, 3, 1), PLACE);
        found("copy NULL", x -> x.copy(0, 0, 3, 0, 1), NULL);
        found("copy STORE", x -> x.copy(0, 0, 1, 0, 1), STORE);
        found("copy PLACE", x -> x.copy(0, 0, 0, 1, 3), PLACE);
        found("drop NULL", x -> x.drop(3), NULL);
        found("fits NULL", x -> x.fits(0, 3, 0, 1, 0), NULL);
        found("fits PLACE", x -> x.fits(0, 0, 0, 4, 0), PLACE);
        found("as KIND", x -> x.as(0, 2), KIND);
    }

    private static void faultChangesNothing() {
        promise(7, "all stays, but the tape is empty then, and fault() tells this one.");
        String[] faults = {"", "g6,1;w1,1;", "g1,1;w1,1;o1,1,0;o1,1,0;", "g1,1;" + "w1,1;".repeat(5)};
        for (String text : faults) {
            PortraitYears x = scene();
            x.house();
            due(text, read(x, text) <= -1000100 ? 1 : 0, 1);
            PortraitYears twin = scene();
            twin.house();
            List<String> before = tellAll(twin);
            int number = x.fault();
            before.set(1, "fault " + number);
            leaves("the FAULT of " + text, x, before, 2);
        }
    }

    private static void foretold(String what, Call call, int status) {
        PortraitYears x = scene();
        int answer = call.on(x);
        holds(what + " is not refused", answer >= 0);
        leaves(what, x, tellAll(scene()), status);
    }

    private static void foretoldChangesNothing() {
        term(3, "FORETOLD (nothing changes),");
        foretold("remains", x -> x.remains(2, 60), 2);
        foretold("lives", x -> x.lives(60), 2);
        foretold("dies", x -> x.dies(0), 2);
        foretold("first", x -> x.first(0), 2);
        foretold("first, when", x -> x.first(1), 2);
        foretold("hanging", x -> x.hanging(5, -1), 2);
        foretold("hanging, a WALL", x -> x.hanging(5, 0), 2);
        foretold("save", x -> x.save(3, 6), 2);
        foretold("dark", x -> x.dark(9, 0), 2);
        foretold("dark, how many", x -> x.dark(9, 1), 2);
        for (int what = 0; what <= 3; what++) {
            int kept = what;
            foretold("fits " + what, x -> x.fits(0, 0, 0, 3, kept), 0);
        }
        foretold("thieves", x -> x.thieves(1, 9, 5, 0), 2);
        foretold("drawn", x -> x.drawn(60, 5, 1), 2);
        foretold("picture", x -> x.picture(0, 4), 2);
        foretold("wall", x -> x.wall(0, 2), 2);
        foretold("kind", x -> x.kind(0), 2);
        foretold("as", x -> x.as(0, 1), 0);
        foretold("count", x -> x.count(5), 2);
    }

    private static void beyondTheCalls() {
        says("What it is", "An object is used for at most 512 calls after it has been made; what later calls answer is free.");
        PortraitYears x = told(FIVE);
        int calls = FIVE.length() + 1;
        while (calls < 511) {
            x.deed(4, 5);
            x.undo();
            calls += 2;
        }
        due("the 512th call is as told", x.count(5), 31);
        int ended = 0;
        for (int more = 0; more < 1000; more++) {
            x.years(1);
            x.hanging(60, -1);
            x.feed('a');
            ended++;
        }
        due("later ones end, too", ended, 1000);
    }

    private static void free() {
        asksNothing("What it is", "Portraits bear it for them: here it's the picture that ages, scars, reddens by drink, "
            + "and who is painted dies when nothing of it is left; pictures of kinds by how they fade, walls by light and damp, "
            + "told in a text; years, deeds that mark them, cells restored for pence, pictures hung elsewhere; "
            + "how much of each is left when, who dies first, who lives; how they ought to be hung so that most live, "
            + "what must be restored so that told ones live so long; which wall to darken; what somebody has done, "
            + "of which kind a picture is, by whom, on which wall it hung, by what was left; how likely so many live, "
            + "when thieves come; years by draws; all undone, images.");
        asksNothing("Terms 4", "Ahead of the calls `row`, `set`, `copy`, `drop` the interface says: ---- rows.");
        asksNothing("Terms 4", "Ahead of the calls `feed`, `house`, `fault`, `years`, `deed`, `restore`, `hang`, `undo`, "
            + "`picture`, `wall` the interface says: ---- houses, acts (sets of PICTURES told as bits).");
        asksNothing("Terms 4", "Ahead of the calls `remains`, `lives`, `dies`, `first`, `hanging`, `save`, `dark`, `fits`, "
            + "`thieves`, `drawn`, `image`, `recall` the interface says: ---- foretold.");
        asksNothing("Terms 4", "Ahead of the calls `kind`, `as`, `ask`, `trace`, `count`, `status` the interface says: "
            + "---- asked.");
        asksNothing("Not promised", "How the state is held inside the object is free, as are the speed of each call, "
            + "the text of toString and the behaviour of equals and hashCode. "
            + "Use of one object from several threads at once is not promised to be safe. "
            + "Nothing is promised beyond the answers and state changes described above, "
            + "and nothing about an object after its 512th call.");
    }
}
