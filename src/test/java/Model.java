import java.util.ArrayList;
import java.util.Arrays;
import java.util.List;
import java.util.regex.Matcher;
import java.util.regex.Pattern;

/** The document written a second time, slowly and year by year, to hold PortraitYears against. */
public final class Model {
    private static final int NONE = -1000000, BAD = -1000001, STATE = -1000002, FULL = -1000003;
    private static final int NULL = -1000011, PLACE = -1000012, KIND = -1000013, SIZE = -1000014, STORE = -1000015;

    private static final class Portrait {
        int number, kind, skill, cells, wall;

        Portrait twin() {
            Portrait p = new Portrait();
            p.number = number;
            p.kind = kind;
            p.skill = skill;
            p.cells = cells;
            p.wall = wall;
            return p;
        }
    }

    private static final class Place {
        int room, purse, year;
        List<int[]> walls = new ArrayList<>();
        List<Portrait> all = new ArrayList<>();

        Place twin() {
            Place t = new Place();
            t.room = room;
            t.purse = purse;
            t.year = year;
            for (int[] wall : walls) {
                t.walls.add(wall.clone());
            }
            for (Portrait p : all) {
                t.all.add(p.twin());
            }
            return t;
        }

        int fade(Portrait p) {
            int light = walls.get(p.wall)[0];
            int damp = walls.get(p.wall)[1];
            int oil = light / p.skill + 1;
            return switch (p.kind) {
                case 1 -> oil;
                case 2 -> oil + oil;
                case 3 -> year % p.skill == 0 ? oil : 0;
                case 4 -> damp / 2;
                default -> 0;
            };
        }

        Place age() {
            for (Portrait p : all) {
                p.cells = p.cells - fade(p);
                if (p.cells < 0) {
                    p.cells = 0;
                }
            }
            year++;
            return this;
        }

        Place aged(int d) {
            Place t = twin();
            for (int i = 0; i < d; i++) {
                t.age();
            }
            return t;
        }

        int living() {
            return all.stream().filter(p -> p.cells > 0).mapToInt(p -> 1 << p.number).sum();
        }

        int total() {
            return all.stream().mapToInt(p -> p.cells).sum();
        }

        long on(int wall) {
            return all.stream().filter(p -> p.wall == wall).count();
        }
    }

    private final int[][] rows = new int[8][];
    private final int[] lanes = new int[8];
    private StringBuilder tape = new StringBuilder();
    private Place place;
    private final Place[] images = new Place[2];
    private final List<Place> past = new ArrayList<>();
    private List<Integer> traced = new ArrayList<>();
    private int lastFault, lastFinding;

    private int end(int answer) {
        if (answer == BAD || answer == STATE || answer == FULL) {
            return answer;
        }
        lastFinding = answer <= NULL && answer >= STORE ? -1000010 - answer : 0;
        return answer;
    }

    private static boolean in(int n, int least, int most) {
        return least <= n && n <= most;
    }

    public int row(int row, int lane, int n) {
        if (!in(row, 0, 7) || !in(lane, 0, 2) || n > 40) {
            return BAD;
        }
        if (n < 0) {
            return end(SIZE);
        }
        rows[row] = new int[n];
        lanes[row] = lane;
        return end(n);
    }

    public int set(int row, int i, int v) {
        if (!in(row, 0, 7)) {
            return BAD;
        }
        if (rows[row] == null) {
            return end(NULL);
        }
        if (!in(i, 0, rows[row].length - 1)) {
            return end(PLACE);
        }
        rows[row][i] = lanes[row] == 0 ? (byte) v : lanes[row] == 1 ? (short) v : v;
        lastFinding = 0;
        return rows[row][i];
    }

    public int copy(int a, int i, int b, int j, int n) {
        if (!in(a, 0, 7) || !in(b, 0, 7)) {
            return BAD;
        }
        if (rows[a] == null || rows[b] == null) {
            return end(NULL);
        }
        if (lanes[a] != lanes[b]) {
            return end(STORE);
        }
        if (i < 0 || j < 0 || n < 0 || (long) i + n > rows[a].length || (long) j + n > rows[b].length) {
            return end(PLACE);
        }
        int[] was = Arrays.copyOfRange(rows[a], i, i + n);
        for (int k = 0; k < n; k++) {
            rows[b][j + k] = was[k];
        }
        return end(n);
    }

    public int drop(int row) {
        if (!in(row, 0, 7)) {
            return BAD;
        }
        if (rows[row] == null) {
            return end(NULL);
        }
        int had = rows[row].length;
        rows[row] = null;
        return end(had);
    }

    public int feed(int letter) {
        if (!in(letter, 0, 255)) {
            return BAD;
        }
        if (tape.length() == 100) {
            return FULL;
        }
        return tape.append((char) letter).length();
    }

    /** A word of the text, with where it begins; the last one is the end. */
    private record Word(String text, int at) {
        boolean is(String sign) {
            return text.equals(sign);
        }

        boolean isNumber() {
            return text.matches("[0-9]{1,2}");
        }

        boolean isSort() {
            return text.matches("[ocups]");
        }
    }

    private static List<Word> words(String text) {
        List<Word> words = new ArrayList<>();
        Matcher matcher = Pattern.compile("[0-9]+|(?s:.)").matcher(text);
        while (matcher.find()) {
            words.add(new Word(matcher.group(), matcher.start()));
        }
        words.add(new Word("the end", text.length()));
        return words;
    }

    /** The shape of the next word by what came, letter by letter: a state machine over words. */
    public int house() {
        List<Word> words = words(tape.toString());
        tape = new StringBuilder();
        Place read = new Place();
        String state = "law";
        int[] numbers = new int[3];
        int got = 0;
        String shape = "";
        for (Word word : words) {
            int fault = 0;
            if (shape.isEmpty()) {
                if (state.equals("law") && word.is("g")) {
                    shape = "n,n;";
                } else if (state.equals("walls") && word.is("w") && read.all.isEmpty()) {
                    shape = "n,n;";
                    fault = read.walls.size() == 4 ? 3 : 0;
                } else if (state.equals("walls") && word.isSort() && !read.walls.isEmpty()) {
                    shape = "n,n,n;";
                    fault = read.all.size() == 5 ? 3 : 0;
                    Portrait p = new Portrait();
                    p.kind = "-ocups".indexOf(word.text());
                    p.number = read.all.size();
                    p.wall = -1;
                    read.all.add(p);
                } else if (word.is("the end") && state.equals("walls") && !read.walls.isEmpty()) {
                    break;
                } else {
                    fault = 1;
                }
                got = 0;
                if (fault != 0) {
                    lastFault = fault;
                    return -1000100 - word.at();
                }
                continue;
            }
            if (shape.charAt(0) == 'n' ? !word.isNumber() : !word.is(shape.substring(0, 1))) {
                fault = 1;
            } else if (shape.charAt(0) == 'n') {
                numbers[got] = Integer.parseInt(word.text());
                fault = asTold(read, state, got, numbers[got]) ? 0 : 2;
                got++;
            }
            if (fault != 0) {
                lastFault = fault;
                return -1000100 - word.at();
            }
            shape = shape.substring(1);
            if (shape.isEmpty()) {
                settle(read, state, numbers);
                state = "walls";
            }
        }
        place = read;
        past.clear();
        return read.all.size();
    }

    private static boolean asTold(Place read, String state, int got, int number) {
        if (state.equals("law")) {
            return got == 0 ? in(number, 1, 5) : in(number, 0, 99);
        }
        if (read.all.isEmpty()) {
            return in(number, 0, 9);
        }
        return switch (got) {
            case 0 -> in(number, 1, 9);
            case 1 -> in(number, 1, 60);
            default -> number < read.walls.size() && read.on(number) < read.room;
        };
    }

    private static void settle(Place read, String state, int[] numbers) {
        if (state.equals("law")) {
            read.room = numbers[0];
            read.purse = numbers[1];
        } else if (read.all.isEmpty()) {
            read.walls.add(new int[] {numbers[0], numbers[1]});
        } else {
            Portrait p = read.all.get(read.all.size() - 1);
            p.skill = numbers[0];
            p.cells = numbers[1];
            p.wall = numbers[2];
        }
    }

    public int fault() {
        return lastFault;
    }

    private void act() {
        past.add(place.twin());
        if (past.size() > 24) {
            past.remove(0);
        }
    }

    private Portrait of(int picture) {
        return place == null || !in(picture, 0, place.all.size() - 1) ? null : place.all.get(picture);
    }

    public int years(int n) {
        if (place == null) {
            return STATE;
        }
        if (!in(n, 1, 24)) {
            return BAD;
        }
        if (place.year + n > 999) {
            return FULL;
        }
        for (int i = 0; i < n; i++) {
            act();
            place.age();
        }
        return place.living();
    }

    public int deed(int picture, int v) {
        Portrait p = of(picture);
        if (p == null || !in(v, 1, 60)) {
            return BAD;
        }
        if (p.cells == 0) {
            return STATE;
        }
        act();
        p.cells = p.cells > v ? p.cells - v : 0;
        return p.cells;
    }

    public int restore(int picture, int v) {
        Portrait p = of(picture);
        if (p == null || !in(v, 1, 60)) {
            return BAD;
        }
        if (p.cells == 0) {
            return STATE;
        }
        int then = p.cells + v > 60 ? 60 : p.cells + v;
        if (then - p.cells > place.purse) {
            return STATE;
        }
        act();
        place.purse -= then - p.cells;
        p.cells = then;
        return then;
    }

    public int hang(int picture, int wall) {
        Portrait p = of(picture);
        if (p == null || !in(wall, 0, place.walls.size() - 1)) {
            return BAD;
        }
        if (p.wall == wall) {
            return STATE;
        }
        if (place.on(wall) >= place.room) {
            return FULL;
        }
        act();
        int was = p.wall;
        p.wall = wall;
        return was;
    }

    public int undo() {
        if (past.isEmpty()) {
            return STATE;
        }
        place = past.remove(past.size() - 1);
        return past.size();
    }

    public int picture(int picture, int what) {
        Portrait p = of(picture);
        if (p == null || !in(what, 0, 4)) {
            return BAD;
        }
        return new int[] {p.skill, p.cells, p.wall, p.cells > 0 ? 1 : 0, place.fade(p)}[what];
    }

    public int wall(int wall, int what) {
        if (place == null || !in(wall, 0, place.walls.size() - 1) || !in(what, 0, 2)) {
            return BAD;
        }
        if (what == 2) {
            return place.all.stream().filter(p -> p.wall == wall).mapToInt(p -> 1 << p.number).sum();
        }
        return place.walls.get(wall)[what];
    }

    public int remains(int picture, int d) {
        if (of(picture) == null || !in(d, 0, 60)) {
            return BAD;
        }
        return place.aged(d).all.get(picture).cells;
    }

    public int lives(int d) {
        if (place == null) {
            return STATE;
        }
        return in(d, 0, 60) ? place.aged(d).living() : BAD;
    }

    public int dies(int picture) {
        if (of(picture) == null) {
            return BAD;
        }
        for (int d = 0; d < 100; d++) {
            if (place.aged(d).all.get(picture).cells == 0) {
                return d;
            }
        }
        return NONE;
    }

    public int first(int what) {
        if (place == null) {
            return STATE;
        }
        if (!in(what, 0, 1)) {
            return BAD;
        }
        for (int d = 1; d < 100; d++) {
            int gone = place.living() & ~place.aged(d).living();
            if (gone != 0) {
                return what == 1 ? d : Integer.numberOfTrailingZeros(gone);
            }
        }
        return NONE;
    }

    private Place best;

    private void hangAll(Place trial, int p, int d) {
        if (p == trial.all.size()) {
            Place then = trial.aged(d);
            if (best == null || better(then, best)) {
                best = then;
            }
            return;
        }
        for (int w = 0; w < trial.walls.size(); w++) {
            if (trial.on(w) < trial.room) {
                trial.all.get(p).wall = w;
                hangAll(trial, p + 1, d);
                trial.all.get(p).wall = -1;
            }
        }
    }

    private static boolean better(Place a, Place b) {
        int alive = Integer.bitCount(a.living()) - Integer.bitCount(b.living());
        return alive > 0 || alive == 0 && a.total() > b.total();
    }

    public int hanging(int d, int k) {
        if (place == null) {
            return STATE;
        }
        if (!in(d, 0, 60) || !in(k, -2, 4)) {
            return BAD;
        }
        Place trial = place.twin();
        trial.all.forEach(p -> p.wall = -1);
        best = null;
        hangAll(trial, 0, d);
        if (k == -1) {
            return Integer.bitCount(best.living());
        }
        if (k == -2) {
            return best.total();
        }
        return k < best.all.size() ? best.all.get(k).wall : NONE;
    }

    public int save(int pictures, int d) {
        if (place == null) {
            return STATE;
        }
        if (pictures < 0 || pictures >> place.all.size() != 0 || !in(d, 0, 60)) {
            return BAD;
        }
        int all = 0;
        for (Portrait p : place.all) {
            if ((pictures & 1 << p.number) != 0) {
                int more = p.cells == 0 ? 61 : 0;
                while (p.cells + more <= 60 && !livesWith(p.number, more, d)) {
                    more++;
                }
                if (p.cells + more > 60) {
                    return NONE;
                }
                all += more;
            }
        }
        return all <= place.purse ? all : NONE;
    }

    private boolean livesWith(int picture, int more, int d) {
        Place trial = place.twin();
        trial.all.get(picture).cells += more;
        return trial.aged(d).all.get(picture).cells > 0;
    }

    public int dark(int d, int what) {
        if (place == null) {
            return STATE;
        }
        if (!in(d, 0, 60) || !in(what, 0, 1)) {
            return BAD;
        }
        int which = -1;
        int most = -1;
        for (int w = 0; w < place.walls.size(); w++) {
            Place trial = place.twin();
            trial.walls.get(w)[0] = 0;
            int alive = Integer.bitCount(trial.aged(d).living());
            if (alive > most) {
                which = w;
                most = alive;
            }
        }
        return what == 0 ? which : most;
    }

    public int fits(int picture, int row, int i, int n, int what) {
        if (of(picture) == null || !in(row, 0, 7) || !in(n, 1, 16) || !in(what, 0, 3)) {
            return BAD;
        }
        if (rows[row] == null) {
            return end(NULL);
        }
        if (i < 0 || (long) i + n > rows[row].length) {
            return end(PLACE);
        }
        int bits = 0;
        int[] from = {1, 1, 0, 0};
        int[] to = {5, 9, place.walls.size() - 1, 29};
        for (int guess = from[what]; guess <= to[what]; guess++) {
            Place trial = place.twin();
            Portrait p = trial.all.get(picture);
            switch (what) {
                case 0 -> p.kind = guess;
                case 1 -> p.skill = guess;
                case 2 -> p.wall = guess;
                default -> p.cells = Math.max(0, p.cells - guess);
            }
            boolean so = true;
            for (int y = 0; y < n; y++) {
                trial.age();
                so &= p.cells == rows[row][i + y];
            }
            bits |= so ? 1 << guess : 0;
        }
        return end(bits);
    }

    public int thieves(int m, int d, int c, int what) {
        if (place == null) {
            return STATE;
        }
        if (!in(m, 0, 5) || !in(d, 0, 60) || !in(c, 0, 10) || !in(what, 0, 1)) {
            return BAD;
        }
        long above = 0;
        long below = 1;
        for (Portrait p : place.all) {
            below *= p.cells > 0 ? 10 : 1;
        }
        for (int burnt = 0; burnt < 1 << place.all.size(); burnt++) {
            if ((burnt & ~place.living()) != 0) {
                continue;
            }
            long ways = 1;
            Place trial = place.twin();
            for (Portrait p : trial.all) {
                if ((burnt & 1 << p.number) != 0) {
                    p.cells = 0;
                    ways *= c;
                } else if (p.cells > 0) {
                    ways *= 10 - c;
                }
            }
            above += Integer.bitCount(trial.aged(d).living()) >= m ? ways : 0;
        }
        long common = below;
        while (above % common != 0 || below % common != 0) {
            common--;
        }
        return (int) ((what == 0 ? above : below) / common);
    }

    public int drawn(int n, int seed, int what) {
        if (place == null) {
            return STATE;
        }
        if (!in(n, 0, 60) || !in(seed, 1, 999999) || !in(what, 0, 1)) {
            return BAD;
        }
        Place trial = place.twin();
        long x = seed;
        for (int y = 0; y < n; y++) {
            x = x * 16807 % 2147483647;
            if (!trial.all.isEmpty()) {
                Portrait p = trial.all.get((int) (x % trial.all.size()));
                p.cells -= Math.min(p.cells, (int) (x % 5));
            }
            trial.age();
        }
        return what == 0 ? trial.living() : trial.total();
    }

    public int image(int k) {
        if (!in(k, 0, 1)) {
            return BAD;
        }
        if (place == null) {
            return STATE;
        }
        images[k] = place.twin();
        return 1;
    }

    public int recall(int k) {
        if (!in(k, 0, 1)) {
            return BAD;
        }
        if (images[k] == null) {
            return STATE;
        }
        place = images[k].twin();
        past.clear();
        return 1;
    }

    public int kind(int picture) {
        return of(picture) == null ? BAD : of(picture).kind;
    }

    public int as(int picture, int kind) {
        if (of(picture) == null || !in(kind, 0, 5)) {
            return BAD;
        }
        return end(bodies(of(picture), new ArrayList<>()).type(kind) ? picture : KIND);
    }

    /** The kinds as Java's own, so that Java itself chooses the bodies. */
    private interface Asked {
        Portrait self();

        List<Integer> trace();

        boolean type(int kind);

        default int size() {
            trace().add(10);
            return self().skill;
        }

        default int mark() {
            trace().add(20);
            return self().number;
        }
    }

    private static class AnyPicture implements Asked {
        final Portrait p;
        final List<Integer> trace;

        AnyPicture(Portrait p, List<Integer> trace) {
            this.p = p;
            this.trace = trace;
        }

        @Override public Portrait self() {
            return p;
        }

        @Override public List<Integer> trace() {
            return trace;
        }

        @Override public boolean type(int kind) {
            Class<?>[] types = {AnyPicture.class, Oil.class, Copied.class, Unsigned.class, Pencil.class, Shade.class};
            return types[kind].isInstance(this);
        }
    }

    private static class Oil extends AnyPicture {
        Oil(Portrait p, List<Integer> trace) {
            super(p, trace);
        }

        @Override public int size() {
            trace.add(11);
            return super.size() + mark();
        }

        @Override public int mark() {
            trace.add(21);
            return super.mark() + p.cells;
        }
    }

    private static class Copied extends Oil {
        Copied(Portrait p, List<Integer> trace) {
            super(p, trace);
        }

        @Override public int size() {
            trace.add(12);
            return 0 - super.size();
        }

        @Override public int mark() {
            trace.add(24);
            return 2 * super.mark();
        }
    }

    private static class Unsigned extends Oil {
        Unsigned(Portrait p, List<Integer> trace) {
            super(p, trace);
        }

        @Override public int mark() {
            trace.add(22);
            return super.mark() - 1000;
        }
    }

    private static class Pencil extends AnyPicture {
        Pencil(Portrait p, List<Integer> trace) {
            super(p, trace);
        }

        @Override public int size() {
            trace.add(13);
            return super.size() - 100;
        }

        @Override public int mark() {
            trace.add(23);
            return super.mark() - size();
        }
    }

    private static class Shade extends Pencil {
        Shade(Portrait p, List<Integer> trace) {
            super(p, trace);
        }

        @Override public int size() {
            trace.add(14);
            return 2 * super.size();
        }
    }

    private static Asked bodies(Portrait p, List<Integer> trace) {
        return switch (p.kind) {
            case 1 -> new Oil(p, trace);
            case 2 -> new Copied(p, trace);
            case 3 -> new Unsigned(p, trace);
            case 4 -> new Pencil(p, trace);
            default -> new Shade(p, trace);
        };
    }

    public int ask(int picture, int what) {
        if (of(picture) == null || !in(what, 0, 1)) {
            return BAD;
        }
        traced = new ArrayList<>();
        Asked asked = bodies(of(picture), traced);
        return what == 0 ? asked.size() : asked.mark();
    }

    public int trace(int i) {
        return in(i, 0, Math.min(16, traced.size()) - 1) ? traced.get(i) : NONE;
    }

    public int count(int what) {
        if (!in(what, 0, 7)) {
            return BAD;
        }
        if (what == 0) {
            return (int) Arrays.stream(rows).filter(row -> row != null).count();
        }
        if (what == 7) {
            return tape.length();
        }
        if (place == null) {
            return 0;
        }
        return new int[] {0, place.walls.size(), place.all.size(), place.year, place.purse, place.living(), past.size()}[what];
    }

    public int status() {
        return lastFinding;
    }
}
