/** Promises 28 to 31: KINDS, ASKS and THE TRACE. */
public final class AskedTest {
    public static void main(String[] args) {
        promise28kind();
        promise29as();
        promise30ask();
        promise30stays();
        promise31trace();
        Check.end();
    }

    private static void promise28kind() {
        PortraitYears x = Check.told(Check.FIVE);
        for (int p = 0; p < 5; p++) {
            Check.due("kind(" + p + ")", x.kind(p), p + 1);
        }
        Check.due("kind(5)", x.kind(5), Check.BAD);
        Check.due("kind(-1)", x.kind(-1), Check.BAD);
        x.deed(3, 60);
        Check.due("of the DEAD, too", x.kind(3), 4);
        Check.due("no HOUSE", new PortraitYears().kind(0), Check.BAD);
    }

    private static void promise29as() {
        PortraitYears x = Check.told(Check.FIVE);
        // Which KINDS (bits) each of the five is.
        int[] is = {1 | 2, 1 | 2 | 4, 1 | 2 | 8, 1 | 16, 1 | 16 | 32};
        for (int p = 0; p < 5; p++) {
            for (int kind = 0; kind < 6; kind++) {
                boolean such = (is[p] >> kind & 1) == 1;
                Check.due("as(" + p + ", " + kind + ")", x.as(p, kind), such ? p : Check.KIND);
                Check.due("its status", x.status(), such ? 0 : 3);
            }
        }
        Check.due("kind 6", x.as(0, 6), Check.BAD);
        Check.due("kind -1", x.as(0, -1), Check.BAD);
        Check.due("picture 5", x.as(5, 0), Check.BAD);
        Check.due("picture -1", x.as(-1, 0), Check.BAD);
    }

    private static void asked(PortraitYears x, int p, int what, int due, int... bodies) {
        String call = "ask(" + p + ", " + what + ")";
        Check.due(call, x.ask(p, what), due);
        for (int i = 0; i < 16; i++) {
            Check.due(call + ", trace(" + i + ")", x.trace(i), i < bodies.length ? bodies[i] : Check.NONE);
        }
    }

    private static void promise30ask() {
        PortraitYears x = Check.told(Check.FIVE);
        asked(x, 0, 0, 3 + 20, 11, 10, 21, 20);
        asked(x, 0, 1, 20, 21, 20);
        asked(x, 1, 0, -(5 + 2 * 31), 12, 11, 10, 24, 21, 20);
        asked(x, 1, 1, 62, 24, 21, 20);
        asked(x, 2, 0, 4 + 14 - 1000, 11, 10, 22, 21, 20);
        asked(x, 2, 1, 14 - 1000, 22, 21, 20);
        asked(x, 3, 0, 2 - 100, 13, 10);
        asked(x, 3, 1, 3 + 98, 23, 20, 13, 10);
        asked(x, 4, 0, 2 * (1 - 100), 14, 13, 10);
        asked(x, 4, 1, 4 + 198, 23, 20, 14, 13, 10);
        x.years(1);
        asked(x, 1, 1, 2 * 27, 24, 21, 20);
    }

    private static void promise30stays() {
        PortraitYears x = Check.told(Check.FIVE);
        x.ask(0, 1);
        Check.due("what 2", x.ask(0, 2), Check.BAD);
        Check.due("what -1", x.ask(0, -1), Check.BAD);
        Check.due("picture 5", x.ask(5, 0), Check.BAD);
        Check.due("picture -1", x.ask(-1, 0), Check.BAD);
        Check.due("TRACE stays", x.trace(0), 21);
        Check.due("TRACE stays, 1", x.trace(1), 20);
        Check.due("TRACE stays, 2", x.trace(2), Check.NONE);
        x.image(0);
        x.recall(0);
        Check.due("TRACE stays when recalled", x.trace(0), 21);
    }

    private static void promise31trace() {
        PortraitYears x = Check.told(Check.FIVE);
        Check.due("ahead of any", x.trace(0), Check.NONE);
        x.ask(3, 0);
        Check.due("0", x.trace(0), 13);
        Check.due("1", x.trace(1), 10);
        Check.due("2", x.trace(2), Check.NONE);
        Check.due("-1", x.trace(-1), Check.NONE);
        Check.due("16", x.trace(16), Check.NONE);
        Check.due("largest", x.trace(Integer.MAX_VALUE), Check.NONE);
        Check.due("least", x.trace(Integer.MIN_VALUE), Check.NONE);
    }
}
