/**
 * Portraits that age in place of those who are painted: ../shared/DOC.md says what each call must do.
 * Everything is made once, in the constructor: no call makes an object.
 */
public final class PortraitYears {
    public static final int NONE = -1000000, BAD = -1000001, STATE = -1000002, FULL = -1000003;

    private static final int FINDING_BASE = -1000010;
    private static final int FINDING_NULL = 1, FINDING_PLACE = 2, FINDING_KIND = 3, FINDING_SIZE = 4, FINDING_STORE = 5;
    private static final int FAULT_BASE = -1000100;

    private static final int MOST_WALLS = 4, MOST_PICTURES = 5;
    private static final int MOST_CELLS = 60, MOST_YEARS_AHEAD = 60, LAST_YEAR = 999;
    private static final int MOST_TOLD_YEARS = 16, LAST_DEATH = 99;

    private static final int PICTURE = 0, OIL = 1, COPY = 2, UNSIGNED = 3, PENCIL = 4, SHADE = 5;

    private final Rows rows;
    private final Tape tape;
    private final House current;
    private final House draft;
    private final House imageZero;
    private final House imageOne;
    private final Acts acts;
    private final Seer seer;
    private final Asker asker;
    private int latestFault;
    private int latestFinding;

    public PortraitYears() {
        rows = new Rows();
        tape = new Tape();
        current = new House();
        draft = new House();
        imageZero = new House();
        imageOne = new House();
        acts = new Acts();
        seer = new Seer();
        asker = new Asker();
    }

    // ---- rows

    public int row(int row, int lane, int n) {
        if (!rows.isRow(row) || !rows.isLane(lane) || n > Rows.MOST_ITEMS) {
            return BAD;
        }
        if (n < 0) {
            return found(FINDING_SIZE);
        }
        rows.make(row, lane, n);
        return foundNothing(n);
    }

    public int set(int row, int i, int v) {
        if (!rows.isRow(row)) {
            return BAD;
        }
        if (rows.isMissing(row)) {
            return found(FINDING_NULL);
        }
        if (!rows.hasPlaces(row, i, 1)) {
            return found(FINDING_PLACE);
        }
        return foundNothing(rows.put(row, i, v));
    }

    public int copy(int a, int i, int b, int j, int n) {
        if (!rows.isRow(a) || !rows.isRow(b)) {
            return BAD;
        }
        if (rows.isMissing(a) || rows.isMissing(b)) {
            return found(FINDING_NULL);
        }
        if (!rows.areOfOneLane(a, b)) {
            return found(FINDING_STORE);
        }
        if (!rows.hasPlaces(a, i, n) || !rows.hasPlaces(b, j, n)) {
            return found(FINDING_PLACE);
        }
        rows.move(a, i, b, j, n);
        return foundNothing(n);
    }

    public int drop(int row) {
        if (!rows.isRow(row)) {
            return BAD;
        }
        if (rows.isMissing(row)) {
            return found(FINDING_NULL);
        }
        return foundNothing(rows.lose(row));
    }

    // ---- houses, acts (sets of PICTURES told as bits)

    public int feed(int letter) {
        if (!isWithin(letter, 0, 255)) {
            return BAD;
        }
        return tape.add(letter) ? tape.length : FULL;
    }

    public int house() {
        boolean told = tape.readInto(draft);
        tape.clear();
        if (!told) {
            latestFault = tape.faultNumber;
            return FAULT_BASE - tape.faultPlace;
        }
        current.become(draft);
        acts.forget();
        return current.pictures;
    }

    public int fault() {
        return latestFault;
    }

    public int years(int n) {
        if (!current.stands) {
            return STATE;
        }
        if (!isWithin(n, 1, 24)) {
            return BAD;
        }
        if (current.year + n > LAST_YEAR) {
            return FULL;
        }
        for (int passed = 0; passed < n; passed++) {
            acts.keep(current);
            seer.pass(current);
        }
        return current.living();
    }

    public int deed(int picture, int v) {
        if (!current.hasPicture(picture) || !isWithin(v, 1, MOST_CELLS)) {
            return BAD;
        }
        if (current.cells[picture] == 0) {
            return STATE;
        }
        acts.keep(current);
        current.cells[picture] = Math.max(0, current.cells[picture] - v);
        return current.cells[picture];
    }

    public int restore(int picture, int v) {
        if (!current.hasPicture(picture) || !isWithin(v, 1, MOST_CELLS)) {
            return BAD;
        }
        int come = Math.min(v, MOST_CELLS - current.cells[picture]);
        if (current.cells[picture] == 0 || come > current.purse) {
            return STATE;
        }
        acts.keep(current);
        current.cells[picture] += come;
        current.purse -= come;
        return current.cells[picture];
    }

    public int hang(int picture, int wall) {
        if (!current.hasPicture(picture) || !current.hasWall(wall)) {
            return BAD;
        }
        int before = current.hung[picture];
        if (before == wall) {
            return STATE;
        }
        if (!current.hasRoomOn(wall)) {
            return FULL;
        }
        acts.keep(current);
        current.hung[picture] = wall;
        return before;
    }

    public int undo() {
        return acts.takeBack(current) ? acts.kept : STATE;
    }

    public int picture(int picture, int what) {
        if (!current.hasPicture(picture)) {
            return BAD;
        }
        switch (what) {
            case 0: return current.skills[picture];
            case 1: return current.cells[picture];
            case 2: return current.hung[picture];
            case 3: return current.cells[picture] > 0 ? 1 : 0;
            case 4: return seer.fadesNow(current, picture);
            default: return BAD;
        }
    }

    public int wall(int wall, int what) {
        if (!current.hasWall(wall)) {
            return BAD;
        }
        switch (what) {
            case 0: return current.lights[wall];
            case 1: return current.damps[wall];
            case 2: return current.hungOn(wall);
            default: return BAD;
        }
    }

    // ---- foretold

    public int remains(int picture, int d) {
        if (!current.hasPicture(picture) || !isAhead(d)) {
            return BAD;
        }
        return seer.cellsBehind(current, picture, d);
    }

    public int lives(int d) {
        if (!current.stands) {
            return STATE;
        }
        return isAhead(d) ? seer.livingBehind(current, d) : BAD;
    }

    public int dies(int picture) {
        return current.hasPicture(picture) ? seer.death(current, picture) : BAD;
    }

    public int first(int what) {
        if (!current.stands) {
            return STATE;
        }
        if (!isWithin(what, 0, 1)) {
            return BAD;
        }
        int who = seer.firstToDie(current);
        return what == 0 || who == NONE ? who : seer.death(current, who);
    }

    public int hanging(int d, int k) {
        if (!current.stands) {
            return STATE;
        }
        if (!isAhead(d) || !isWithin(k, -2, MOST_PICTURES - 1)) {
            return BAD;
        }
        seer.seekHanging(current, d);
        switch (k) {
            case -1: return seer.bestLiving;
            case -2: return seer.bestCells;
            default: return current.hasPicture(k) ? seer.bestWalls[k] : NONE;
        }
    }

    public int save(int pictures, int d) {
        if (!current.stands) {
            return STATE;
        }
        if (!isWithin(pictures, 0, (1 << current.pictures) - 1) || !isAhead(d)) {
            return BAD;
        }
        return seer.cellsToSave(current, pictures, d);
    }

    public int dark(int d, int what) {
        if (!current.stands) {
            return STATE;
        }
        if (!isAhead(d) || !isWithin(what, 0, 1)) {
            return BAD;
        }
        int wall = seer.wallToDarken(current, d);
        return what == 0 ? wall : seer.livingInDark(current, wall, d);
    }

    public int fits(int picture, int row, int i, int n, int what) {
        if (!current.hasPicture(picture) || !rows.isRow(row)) {
            return BAD;
        }
        if (!isWithin(n, 1, MOST_TOLD_YEARS) || !isWithin(what, 0, 3)) {
            return BAD;
        }
        if (rows.isMissing(row)) {
            return found(FINDING_NULL);
        }
        if (!rows.hasPlaces(row, i, n)) {
            return found(FINDING_PLACE);
        }
        rows.tell(row, i, n, seer.told);
        switch (what) {
            case 0: return foundNothing(seer.kindsThatFit(current, picture, n));
            case 1: return foundNothing(seer.skillsThatFit(current, picture, n));
            case 2: return foundNothing(seer.wallsThatFit(current, picture, n));
            default: return foundNothing(seer.deedsThatFit(current, picture, n));
        }
    }

    public int thieves(int m, int d, int c, int what) {
        if (!current.stands) {
            return STATE;
        }
        if (!isWithin(m, 0, MOST_PICTURES) || !isAhead(d) || !isWithin(c, 0, 10) || !isWithin(what, 0, 1)) {
            return BAD;
        }
        int living = Integer.bitCount(seer.livingBehind(current, d));
        int above = seer.waysToKeep(m, living, c);
        int below = seer.power(10, living);
        int common = seer.commonDivisor(above, below);
        return (what == 0 ? above : below) / common;
    }

    public int drawn(int n, int seed, int what) {
        if (!current.stands) {
            return STATE;
        }
        if (!isAhead(n) || !isWithin(seed, 1, 999999) || !isWithin(what, 0, 1)) {
            return BAD;
        }
        seer.draw(current, n, seed);
        return what == 0 ? seer.agedLiving(current) : seer.agedCells(current);
    }

    public int image(int k) {
        if (!isWithin(k, 0, 1)) {
            return BAD;
        }
        if (!current.stands) {
            return STATE;
        }
        imageOf(k).become(current);
        return 1;
    }

    public int recall(int k) {
        if (!isWithin(k, 0, 1)) {
            return BAD;
        }
        if (!imageOf(k).stands) {
            return STATE;
        }
        current.become(imageOf(k));
        acts.forget();
        return 1;
    }

    // ---- asked

    public int kind(int picture) {
        return current.hasPicture(picture) ? current.kinds[picture] : BAD;
    }

    public int as(int picture, int kind) {
        if (!current.hasPicture(picture) || !isWithin(kind, PICTURE, SHADE)) {
            return BAD;
        }
        if (!asker.isA(current.kinds[picture], kind)) {
            return found(FINDING_KIND);
        }
        return foundNothing(picture);
    }

    public int ask(int picture, int what) {
        if (!current.hasPicture(picture) || !isWithin(what, 0, 1)) {
            return BAD;
        }
        return what == 0 ? asker.sizeOf(current, picture) : asker.markOf(current, picture);
    }

    public int trace(int i) {
        return isWithin(i, 0, asker.begun - 1) ? asker.bodies[i] : NONE;
    }

    public int count(int what) {
        switch (what) {
            case 0: return rows.present();
            case 1: return current.walls;
            case 2: return current.pictures;
            case 3: return current.year;
            case 4: return current.purse;
            case 5: return current.living();
            case 6: return acts.kept;
            case 7: return tape.length;
            default: return BAD;
        }
    }

    public int status() {
        return latestFinding;
    }

    private int found(int number) {
        latestFinding = number;
        return FINDING_BASE - number;
    }

    private int foundNothing(int answer) {
        latestFinding = 0;
        return answer;
    }

    private House imageOf(int k) {
        return k == 0 ? imageZero : imageOne;
    }

    private static boolean isAhead(int d) {
        return isWithin(d, 0, MOST_YEARS_AHEAD);
    }

    private static boolean isWithin(int number, int least, int most) {
        return number >= least && number <= most;
    }

    /** The eight ROWS, side by side in one array, so that a new ROW makes no object. */
    private static final class Rows {
        static final int MOST_ROWS = 8, MOST_ITEMS = 40;
        static final int MISSING = -1, BYTES = 0, SHORTS = 1, INTS = 2;

        final int[] items = new int[MOST_ROWS * MOST_ITEMS];
        final int[] lanes = new int[MOST_ROWS];
        final int[] lengths = new int[MOST_ROWS];

        Rows() {
            for (int row = 0; row < MOST_ROWS; row++) {
                lanes[row] = MISSING;
            }
        }

        boolean isRow(int row) {
            return isWithin(row, 0, MOST_ROWS - 1);
        }

        boolean isLane(int lane) {
            return isWithin(lane, BYTES, INTS);
        }

        boolean isMissing(int row) {
            return lanes[row] == MISSING;
        }

        boolean areOfOneLane(int a, int b) {
            return lanes[a] == lanes[b];
        }

        /** Whether n places from i on are all there; n is taken from the length, as i + n may wrap around. */
        boolean hasPlaces(int row, int i, int n) {
            return i >= 0 && n >= 0 && n <= lengths[row] && i <= lengths[row] - n;
        }

        void make(int row, int lane, int n) {
            lanes[row] = lane;
            lengths[row] = n;
            for (int i = 0; i < n && i < MOST_ITEMS; i++) {
                items[row * MOST_ITEMS + i] = 0;
            }
        }

        int put(int row, int i, int v) {
            int kept = v;
            if (lanes[row] == BYTES) {
                kept = (byte) v;
            } else if (lanes[row] == SHORTS) {
                kept = (short) v;
            }
            items[row * MOST_ITEMS + i] = kept;
            return kept;
        }

        void move(int a, int i, int b, int j, int n) {
            System.arraycopy(items, a * MOST_ITEMS + i, items, b * MOST_ITEMS + j, n);
        }

        void tell(int row, int i, int n, int[] into) {
            if (n <= into.length) {
                System.arraycopy(items, row * MOST_ITEMS + i, into, 0, n);
            }
        }

        int lose(int row) {
            int had = lengths[row];
            lanes[row] = MISSING;
            lengths[row] = 0;
            return had;
        }

        int present() {
            int there = 0;
            for (int row = 0; row < MOST_ROWS; row++) {
                if (!isMissing(row)) {
                    there++;
                }
            }
            return there;
        }
    }

    /** A HOUSE: its law, WALLS and PICTURES as they are now; one that does not stand has none of them. */
    private static final class House {
        boolean stands;
        int room;
        int purse;
        int year;
        int walls;
        int pictures;
        final int[] lights = new int[MOST_WALLS];
        final int[] damps = new int[MOST_WALLS];
        final int[] kinds = new int[MOST_PICTURES];
        final int[] skills = new int[MOST_PICTURES];
        final int[] cells = new int[MOST_PICTURES];
        final int[] hung = new int[MOST_PICTURES];

        void clear() {
            stands = false;
            room = 0;
            purse = 0;
            year = 0;
            walls = 0;
            pictures = 0;
        }

        void become(House other) {
            stands = other.stands;
            room = other.room;
            purse = other.purse;
            year = other.year;
            walls = other.walls;
            pictures = other.pictures;
            System.arraycopy(other.lights, 0, lights, 0, MOST_WALLS);
            System.arraycopy(other.damps, 0, damps, 0, MOST_WALLS);
            System.arraycopy(other.kinds, 0, kinds, 0, MOST_PICTURES);
            System.arraycopy(other.skills, 0, skills, 0, MOST_PICTURES);
            System.arraycopy(other.cells, 0, cells, 0, MOST_PICTURES);
            System.arraycopy(other.hung, 0, hung, 0, MOST_PICTURES);
        }

        boolean hasPicture(int picture) {
            return isWithin(picture, 0, pictures - 1);
        }

        boolean hasWall(int wall) {
            return isWithin(wall, 0, walls - 1);
        }

        boolean hasRoomOn(int wall) {
            return Integer.bitCount(hungOn(wall)) < room;
        }

        int hungOn(int wall) {
            int bits = 0;
            for (int p = 0; p < pictures; p++) {
                if (hung[p] == wall) {
                    bits |= 1 << p;
                }
            }
            return bits;
        }

        int living() {
            int bits = 0;
            for (int p = 0; p < pictures; p++) {
                if (cells[p] > 0) {
                    bits |= 1 << p;
                }
            }
            return bits;
        }

        void addWall(int light, int damp) {
            if (walls < MOST_WALLS) {
                lights[walls] = light;
                damps[walls] = damp;
                walls++;
            }
        }

        void addPicture(int kind, int skill, int cellsLeft, int wall) {
            if (pictures < MOST_PICTURES) {
                kinds[pictures] = kind;
                skills[pictures] = skill;
                cells[pictures] = cellsLeft;
                hung[pictures] = wall;
                pictures++;
            }
        }
    }

    /** THE TAPE, and how a HOUSE is read from it. */
    private static final class Tape {
        static final int MOST_BYTES = 100;
        static final int THE_END = -1;
        static final int MISPLACED = 1, NOT_AS_TOLD = 2, TOO_MANY = 3;

        final int[] bytes = new int[MOST_BYTES];
        int length;
        int at;
        int faultNumber;
        int faultPlace;

        boolean add(int letter) {
            if (length >= MOST_BYTES) {
                return false;
            }
            bytes[length] = letter;
            length++;
            return true;
        }

        void clear() {
            length = 0;
        }

        /** Whether the tape tells a HOUSE; if it does not, faultNumber and faultPlace tell its first FAULT. */
        boolean readInto(House draft) {
            at = 0;
            draft.clear();
            if (!readLaw(draft) || !readWalls(draft) || !readPictures(draft)) {
                return false;
            }
            draft.stands = true;
            return true;
        }

        boolean readLaw(House draft) {
            if (!take('g')) {
                return false;
            }
            draft.room = takeNumber(1, 5);
            if (draft.room < 0 || !take(',')) {
                return false;
            }
            draft.purse = takeNumber(0, 99);
            return draft.purse >= 0 && take(';');
        }

        boolean readWalls(House draft) {
            // One round more than there may be walls, so that the wall too many finds its FAULT.
            for (int w = 0; w <= MOST_WALLS && (w == 0 || next() == 'w'); w++) {
                if (!readWall(draft)) {
                    return false;
                }
            }
            return true;
        }

        boolean readWall(House draft) {
            if (next() == 'w' && draft.walls >= MOST_WALLS) {
                return failAt(at, TOO_MANY);
            }
            if (!take('w')) {
                return false;
            }
            int light = takeNumber(0, 9);
            if (light < 0 || !take(',')) {
                return false;
            }
            int damp = takeNumber(0, 9);
            if (damp < 0 || !take(';')) {
                return false;
            }
            draft.addWall(light, damp);
            return true;
        }

        boolean readPictures(House draft) {
            // One round more than there may be pictures, as for walls.
            for (int p = 0; p <= MOST_PICTURES && next() != THE_END; p++) {
                if (!readPicture(draft)) {
                    return false;
                }
            }
            return true;
        }

        boolean readPicture(House draft) {
            int kind = kindOfSort(next());
            if (kind == PICTURE) {
                return failAt(at, MISPLACED);
            }
            if (draft.pictures >= MOST_PICTURES) {
                return failAt(at, TOO_MANY);
            }
            at++;
            int skill = takeNumber(1, 9);
            if (skill < 0 || !take(',')) {
                return false;
            }
            int cells = takeNumber(1, MOST_CELLS);
            if (cells < 0 || !take(',')) {
                return false;
            }
            int wall = takeWall(draft);
            if (wall < 0 || !take(';')) {
                return false;
            }
            draft.addPicture(kind, skill, cells, wall);
            return true;
        }

        /** The KIND that a SORT's letter tells; PICTURE, which no letter tells, for every other sign. */
        int kindOfSort(int sign) {
            switch (sign) {
                case 'o': return OIL;
                case 'c': return COPY;
                case 'u': return UNSIGNED;
                case 'p': return PENCIL;
                case 's': return SHADE;
                default: return PICTURE;
            }
        }

        int takeWall(House draft) {
            int from = at;
            int wall = takeNumber(0, draft.walls - 1);
            if (wall >= 0 && !draft.hasRoomOn(wall)) {
                failAt(from, NOT_AS_TOLD);
                return -1;
            }
            return wall;
        }

        /** The NUMBER that stands next, or -1 behind a FAULT. */
        int takeNumber(int least, int most) {
            int from = at;
            int number = 0;
            while (at < length && at < from + 3 && isFigure(next())) {
                number = number * 10 + next() - '0';
                at++;
            }
            int figures = at - from;
            if (figures < 1 || figures > 2) {
                failAt(from, MISPLACED);
                return -1;
            }
            if (!isWithin(number, least, most)) {
                failAt(from, NOT_AS_TOLD);
                return -1;
            }
            return number;
        }

        boolean take(int sign) {
            if (next() != sign) {
                return failAt(at, MISPLACED);
            }
            at++;
            return true;
        }

        int next() {
            return at >= 0 && at < length && at < MOST_BYTES ? bytes[at] : THE_END;
        }

        boolean isFigure(int sign) {
            return sign >= '0' && sign <= '9';
        }

        boolean failAt(int place, int number) {
            faultPlace = place;
            faultNumber = number;
            return false;
        }
    }

    /** What the HOUSE was ahead of each of the latest ACTS, in a ring, so that the oldest makes place by itself. */
    private static final class Acts {
        static final int MOST_ACTS = 24;
        static final int CELLS_AT = 2, HUNG_AT = CELLS_AT + MOST_PICTURES, WIDTH = HUNG_AT + MOST_PICTURES;

        final int[] past = new int[MOST_ACTS * WIDTH];
        int kept;
        int free;

        void forget() {
            kept = 0;
            free = 0;
        }

        void keep(House house) {
            int from = free * WIDTH;
            past[from] = house.year;
            past[from + 1] = house.purse;
            System.arraycopy(house.cells, 0, past, from + CELLS_AT, MOST_PICTURES);
            System.arraycopy(house.hung, 0, past, from + HUNG_AT, MOST_PICTURES);
            free = (free + 1) % MOST_ACTS;
            kept = Math.min(kept + 1, MOST_ACTS);
        }

        boolean takeBack(House house) {
            if (kept < 1) {
                return false;
            }
            kept--;
            free = (free + MOST_ACTS - 1) % MOST_ACTS;
            int from = free * WIDTH;
            house.year = past[from];
            house.purse = past[from + 1];
            System.arraycopy(past, from + CELLS_AT, house.cells, 0, MOST_PICTURES);
            System.arraycopy(past, from + HUNG_AT, house.hung, 0, MOST_PICTURES);
            return true;
        }
    }

    /** One PICTURE, all by which it FADES; what is supposed of it is put here, so that the HOUSE stays. */
    private static final class Outlook {
        int kind;
        int skill;
        int cells;
        int light;
        int damp;
        int year;

        void takeFrom(House house, int picture) {
            kind = house.kinds[picture];
            skill = house.skills[picture];
            cells = house.cells[picture];
            year = house.year;
            takeWall(house, house.hung[picture]);
        }

        void takeWall(House house, int wall) {
            if (house.hasWall(wall)) {
                light = house.lights[wall];
                damp = house.damps[wall];
            }
        }

        int cellsBehind(int d) {
            return Math.max(0, cells - fadesIn(d));
        }

        /** By how many CELLS it FADES in d YEARS, were there enough of them. */
        int fadesIn(int d) {
            switch (kind) {
                case OIL: return d * fadesAsOil();
                case COPY: return d * 2 * fadesAsOil();
                case UNSIGNED: return yearsThatSkillDivides(d) * fadesAsOil();
                case PENCIL: return d * (damp / 2);
                default: return 0;
            }
        }

        int fadesAsOil() {
            return skill < 1 ? 0 : 1 + light / skill;
        }

        /** How many of the d YEARS from this one on SKILL divides: those below the last less those below the first. */
        int yearsThatSkillDivides(int d) {
            if (skill < 1) {
                return 0;
            }
            return (year + d + skill - 1) / skill - (year + skill - 1) / skill;
        }
    }

    /** All that is FORETOLD, and the YEARS that come. */
    private static final class Seer {
        static final int MOST_SKILL = 9, MOST_TAKEN = 29;

        final Outlook outlook = new Outlook();
        final int[] told = new int[MOST_TOLD_YEARS];
        final int[] behind = new int[MOST_PICTURES * MOST_WALLS];
        final int[] crowd = new int[MOST_WALLS];
        final int[] triedWalls = new int[MOST_PICTURES];
        final int[] bestWalls = new int[MOST_PICTURES];
        final int[] aged = new int[MOST_PICTURES];
        int bestLiving;
        int bestCells;

        void pass(House house) {
            for (int p = 0; p < house.pictures; p++) {
                house.cells[p] = cellsBehind(house, p, 1);
            }
            house.year++;
        }

        int fadesNow(House house, int picture) {
            outlook.takeFrom(house, picture);
            return outlook.fadesIn(1);
        }

        int cellsBehind(House house, int picture, int d) {
            outlook.takeFrom(house, picture);
            return outlook.cellsBehind(d);
        }

        int livingBehind(House house, int d) {
            int bits = 0;
            for (int p = 0; p < house.pictures; p++) {
                if (cellsBehind(house, p, d) > 0) {
                    bits |= 1 << p;
                }
            }
            return bits;
        }

        int death(House house, int picture) {
            outlook.takeFrom(house, picture);
            for (int d = 0; d <= LAST_DEATH; d++) {
                if (outlook.cellsBehind(d) == 0) {
                    return d;
                }
            }
            return NONE;
        }

        int firstToDie(House house) {
            int who = NONE;
            int soonest = LAST_DEATH + 1;
            for (int p = 0; p < house.pictures; p++) {
                int d = death(house, p);
                if (d > 0 && d < soonest) {
                    who = p;
                    soonest = d;
                }
            }
            return who;
        }

        void seekHanging(House house, int d) {
            bestLiving = -1;
            bestCells = -1;
            foretellAllWalls(house, d);
            hangFrom(house, 0, 0, 0);
        }

        void foretellAllWalls(House house, int d) {
            for (int p = 0; p < house.pictures; p++) {
                outlook.takeFrom(house, p);
                for (int w = 0; w < house.walls; w++) {
                    outlook.takeWall(house, w);
                    behind[p * MOST_WALLS + w] = outlook.cellsBehind(d);
                }
            }
        }

        /** Hangs the PICTURES from p on in every way, in the order of the WALLS: so the first of the best stays. */
        private void hangFrom(House house, int p, int living, int cells) {
            if (p >= house.pictures || p >= MOST_PICTURES) {
                weigh(living, cells);
                return;
            }
            for (int w = 0; w < house.walls; w++) {
                if (crowd[w] < house.room) {
                    int left = behind[p * MOST_WALLS + w];
                    triedWalls[p] = w;
                    crowd[w]++;
                    hangFrom(house, p + 1, living + (left > 0 ? 1 : 0), cells + left);
                    crowd[w]--;
                }
            }
        }

        void weigh(int living, int cells) {
            if (living > bestLiving || living == bestLiving && cells > bestCells) {
                bestLiving = living;
                bestCells = cells;
                System.arraycopy(triedWalls, 0, bestWalls, 0, MOST_PICTURES);
            }
        }

        int cellsToSave(House house, int pictures, int d) {
            int all = 0;
            for (int p = 0; p < house.pictures; p++) {
                if ((pictures >> p & 1) == 1) {
                    outlook.takeFrom(house, p);
                    int needed = outlook.fadesIn(d) + 1;
                    if (outlook.cells == 0 || needed > MOST_CELLS) {
                        return NONE;
                    }
                    all += Math.max(0, needed - outlook.cells);
                }
            }
            return all > house.purse ? NONE : all;
        }

        int wallToDarken(House house, int d) {
            int best = 0;
            int most = -1;
            for (int w = 0; w < house.walls; w++) {
                int living = livingInDark(house, w, d);
                if (living > most) {
                    best = w;
                    most = living;
                }
            }
            return best;
        }

        int livingInDark(House house, int wall, int d) {
            int living = 0;
            for (int p = 0; p < house.pictures; p++) {
                outlook.takeFrom(house, p);
                if (house.hung[p] == wall) {
                    outlook.light = 0;
                }
                living += outlook.cellsBehind(d) > 0 ? 1 : 0;
            }
            return living;
        }

        int kindsThatFit(House house, int picture, int n) {
            int bits = 0;
            outlook.takeFrom(house, picture);
            for (int kind = OIL; kind <= SHADE; kind++) {
                outlook.kind = kind;
                bits |= isAsTold(n) ? 1 << kind : 0;
            }
            return bits;
        }

        int skillsThatFit(House house, int picture, int n) {
            int bits = 0;
            outlook.takeFrom(house, picture);
            for (int skill = 1; skill <= MOST_SKILL; skill++) {
                outlook.skill = skill;
                bits |= isAsTold(n) ? 1 << skill : 0;
            }
            return bits;
        }

        int wallsThatFit(House house, int picture, int n) {
            int bits = 0;
            outlook.takeFrom(house, picture);
            for (int wall = 0; wall < house.walls; wall++) {
                outlook.takeWall(house, wall);
                bits |= isAsTold(n) ? 1 << wall : 0;
            }
            return bits;
        }

        int deedsThatFit(House house, int picture, int n) {
            int bits = 0;
            outlook.takeFrom(house, picture);
            int now = outlook.cells;
            for (int taken = 0; taken <= MOST_TAKEN; taken++) {
                outlook.cells = Math.max(0, now - taken);
                bits |= isAsTold(n) ? 1 << taken : 0;
            }
            return bits;
        }

        boolean isAsTold(int n) {
            for (int y = 0; y < n && y < MOST_TOLD_YEARS; y++) {
                if (outlook.cellsBehind(y + 1) != told[y]) {
                    return false;
                }
            }
            return true;
        }

        /** Of 10 to the power of living, in how many cases m or more are not burnt. */
        int waysToKeep(int m, int living, int c) {
            int ways = 0;
            for (int kept = 0; kept < 1 << living; kept++) {
                int safe = Integer.bitCount(kept);
                if (safe >= m) {
                    ways += power(10 - c, safe) * power(c, living - safe);
                }
            }
            return ways;
        }

        int power(int base, int exponent) {
            int product = 1;
            for (int times = 0; times < exponent; times++) {
                product *= base;
            }
            return product;
        }

        /** The greatest common divisor, never below 1, so that it can divide. */
        int commonDivisor(int above, int below) {
            int a = above;
            int b = below;
            // Two rounds halve b at least, so that an int needs no more than twice its bits.
            for (int round = 0; round < 64 && b != 0; round++) {
                int rest = a % b;
                a = b;
                b = rest;
            }
            return Math.max(1, a);
        }

        void draw(House house, int n, int seed) {
            System.arraycopy(house.cells, 0, aged, 0, MOST_PICTURES);
            long x = seed;
            for (int passed = 0; passed < n; passed++) {
                x = x * 16807L % 2147483647L;
                if (house.pictures > 0) {
                    int marked = (int) (x % house.pictures);
                    aged[marked] = Math.max(0, aged[marked] - (int) (x % 5));
                }
                passDrawn(house, passed);
            }
        }

        void passDrawn(House house, int passed) {
            for (int p = 0; p < house.pictures; p++) {
                outlook.takeFrom(house, p);
                outlook.cells = aged[p];
                outlook.year = house.year + passed;
                aged[p] = outlook.cellsBehind(1);
            }
        }

        int agedLiving(House house) {
            int bits = 0;
            for (int p = 0; p < house.pictures; p++) {
                bits |= aged[p] > 0 ? 1 << p : 0;
            }
            return bits;
        }

        int agedCells(House house) {
            int all = 0;
            for (int p = 0; p < house.pictures; p++) {
                all += aged[p];
            }
            return all;
        }
    }

    /** KINDS, the ASKS of PICTURES and THE TRACE of their BODIES. */
    private static final class Asker {
        static final int MOST_TRACED = 16, DEEPEST = 16;
        static final int NO_KIND = -1;
        /** Which KIND each one is, too. */
        static final int[] NEAREST = {NO_KIND, PICTURE, OIL, OIL, PICTURE, PENCIL};
        /** Which BODY begins for each KIND, the one that is lent first. */
        static final int[] SIZE_BODIES = {10, 11, 12, 11, 13, 14};
        static final int[] MARK_BODIES = {20, 21, 24, 22, 23, 23};

        final int[] bodies = new int[MOST_TRACED];
        int begun;

        boolean isA(int kind, int asked) {
            int nearest = kind;
            for (int step = 0; step < NEAREST.length && isWithin(nearest, PICTURE, SHADE); step++) {
                if (nearest == asked) {
                    return true;
                }
                nearest = NEAREST[nearest];
            }
            return false;
        }

        int sizeOf(House house, int picture) {
            begun = 0;
            return give(bodyFor(house.kinds[picture], SIZE_BODIES), house, picture, 0);
        }

        int markOf(House house, int picture) {
            begun = 0;
            return give(bodyFor(house.kinds[picture], MARK_BODIES), house, picture, 0);
        }

        /** The BODY that begins for a KIND; the one that is lent, were it none. */
        int bodyFor(int kind, int[] ofKinds) {
            return isWithin(kind, PICTURE, ofKinds.length - 1) ? ofKinds[kind] : ofKinds[PICTURE];
        }

        /** What a BODY gives. SIZE and MARK within one begin anew at the PICTURE's own KIND. */
        private int give(int body, House house, int p, int depth) {
            if (depth > DEEPEST) {
                return 0;
            }
            begin(body);
            int kind = house.kinds[p];
            int deeper = depth + 1;
            switch (body) {
                case 10: return house.skills[p];
                case 11: return give(10, house, p, deeper) + give(bodyFor(kind, MARK_BODIES), house, p, deeper);
                case 12: return 0 - give(11, house, p, deeper);
                case 13: return give(10, house, p, deeper) - 100;
                case 14: return 2 * give(13, house, p, deeper);
                case 20: return p;
                case 21: return give(20, house, p, deeper) + house.cells[p];
                case 22: return give(21, house, p, deeper) - 1000;
                case 23: return give(20, house, p, deeper) - give(bodyFor(kind, SIZE_BODIES), house, p, deeper);
                case 24: return 2 * give(21, house, p, deeper);
                default: return 0;
            }
        }

        void begin(int body) {
            if (begun < MOST_TRACED) {
                bodies[begun] = body;
                begun++;
            }
        }
    }
}
