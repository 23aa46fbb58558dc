import java.lang.reflect.Method;
import java.util.ArrayList;
import java.util.Arrays;
import java.util.Comparator;
import java.util.List;
import java.util.Random;

/** Many runs of calls, the same ones each time, on PortraitYears and on Model: both answer alike. */
public final class ModelTest {
    private static final int RUNS = 3000;
    private static final int[] EDGES = {Integer.MIN_VALUE, -1000, -3, 17, 41, 61, 101, 1000000, Integer.MAX_VALUE};

    private static final List<Method> CALLS = new ArrayList<>();
    private static final List<Method> TWINS = new ArrayList<>();

    private final Random random;
    private final PortraitYears x = new PortraitYears();
    private final Model model = new Model();
    private final List<String> history = new ArrayList<>();
    private boolean apart = false;
    private int calls = 0;

    private ModelTest(long seed) {
        random = new Random(seed);
    }

    public static void main(String[] args) throws Exception {
        for (Method method : PortraitYears.class.getDeclaredMethods()) {
            if (java.lang.reflect.Modifier.isPublic(method.getModifiers())) {
                CALLS.add(method);
            }
        }
        CALLS.sort(Comparator.comparing(Method::getName));
        for (Method method : CALLS) {
            TWINS.add(Model.class.getMethod(method.getName(), method.getParameterTypes()));
        }
        for (int run = 0; run < RUNS; run++) {
            ModelTest test = new ModelTest(run);
            test.play();
            Check.holds("run " + run + " " + test.history, !test.apart);
        }
        Check.end();
    }

    private void play() throws Exception {
        if (random.nextInt(12) == 0) {
            wander(30);
        }
        while (calls < 500 && !apart) {
            tell(random.nextInt(3) == 0 ? spoilt(text()) : text());
            wander(20 + random.nextInt(200));
        }
    }

    private void call(String name, int... args) throws Exception {
        for (int i = 0; i < CALLS.size() && !apart && calls < 512; i++) {
            if (CALLS.get(i).getName().equals(name)) {
                Object[] boxed = Arrays.stream(args).boxed().toArray();
                int got = (int) CALLS.get(i).invoke(x, boxed);
                int due = (int) TWINS.get(i).invoke(model, boxed);
                calls++;
                history.add(name + Arrays.toString(args) + "=" + got);
                if (got != due) {
                    apart = true;
                    history.add("due is " + due);
                }
            }
        }
    }

    private void tell(String text) throws Exception {
        if (random.nextInt(8) != 0) {
            call("house");
        }
        for (char letter : text.toCharArray()) {
            call("feed", letter);
        }
        call("house");
        call("fault");
    }

    private String number(int least, int most) {
        int n = least + random.nextInt(most - least + 1);
        return (n < 10 && random.nextInt(8) == 0 ? "0" : "") + n;
    }

    private String text() {
        int room = 1 + random.nextInt(5);
        int walls = 1 + random.nextInt(4);
        StringBuilder text = new StringBuilder("g" + room + "," + number(0, 99) + ";");
        for (int w = 0; w < walls; w++) {
            text.append('w').append(number(0, 9)).append(',').append(number(0, 9)).append(';');
        }
        int pictures = Math.min(random.nextInt(8) == 0 ? random.nextInt(6) : 5, room * walls);
        int[] hung = new int[walls];
        for (int p = 0; p < pictures; p++) {
            int wall = random.nextInt(walls);
            while (hung[wall] == room) {
                wall = (wall + 1) % walls;
            }
            hung[wall]++;
            text.append("ocups".charAt(random.nextInt(5))).append(number(1, 9)).append(',');
            text.append(number(1, 60)).append(',').append(wall).append(';');
        }
        return text.toString();
    }

    private String spoilt(String text) {
        StringBuilder spoilt = new StringBuilder(text);
        String signs = "gwocupsx0123456789,; G" + (char) 233;
        int at = random.nextInt(text.length());
        char sign = signs.charAt(random.nextInt(signs.length()));
        switch (random.nextInt(5)) {
            case 0 -> spoilt.setCharAt(at, sign);
            case 1 -> spoilt.insert(at, sign);
            case 2 -> spoilt.deleteCharAt(at);
            case 3 -> spoilt.setLength(at);
            default -> spoilt.append(random.nextInt(3) == 0 ? "w1,1;" : "o1,1,0;");
        }
        return spoilt.toString();
    }

    private int some(int least, int most) {
        if (random.nextInt(60) == 0) {
            return EDGES[random.nextInt(EDGES.length)];
        }
        if (random.nextInt(25) == 0) {
            return random.nextBoolean() ? least - 1 : most + 1;
        }
        return least + random.nextInt(most - least + 1);
    }

    private int picture() {
        return some(0, 4);
    }

    private void wander(int steps) throws Exception {
        for (int step = 0; step < steps && !apart; step++) {
            switch (random.nextInt(11)) {
                case 0 -> rows();
                case 1 -> acts();
                case 2 -> acts();
                case 3 -> foretell();
                case 4 -> foretell();
                case 5 -> foretell();
                case 6 -> tellRow();
                case 7 -> asks();
                case 8 -> look();
                case 9 -> images();
                default -> look();
            }
        }
    }

    private void rows() throws Exception {
        switch (random.nextInt(5)) {
            case 0 -> call("row", some(0, 7), some(0, 2), some(0, 40));
            case 1 -> call("set", some(0, 7), some(0, 20), random.nextInt());
            case 2 -> call("copy", some(0, 7), some(0, 10), some(0, 7), some(0, 10), some(0, 8));
            case 3 -> call("copy", 0, some(0, 10), 0, some(0, 10), some(0, 8));
            default -> call("drop", some(0, 7));
        }
        call("status");
    }

    private void acts() throws Exception {
        switch (random.nextInt(7)) {
            case 0 -> call("years", some(1, random.nextInt(8) == 0 ? 24 : 3));
            case 1 -> call("deed", picture(), some(1, random.nextInt(8) == 0 ? 60 : 9));
            case 2 -> call("restore", picture(), some(1, random.nextInt(4) == 0 ? 60 : 9));
            case 3 -> call("hang", picture(), some(0, 3));
            case 4 -> call("undo");
            case 5 -> call("hang", picture(), some(0, 3));
            default -> call("years", 1);
        }
    }

    private void foretell() throws Exception {
        int d = some(0, random.nextInt(3) == 0 ? 60 : 12);
        switch (random.nextInt(9)) {
            case 0 -> call("remains", picture(), d);
            case 1 -> call("lives", d);
            case 2 -> call("dies", picture());
            case 3 -> call("first", some(0, 1));
            case 4 -> call("hanging", d, some(-2, 4));
            case 5 -> call("save", random.nextInt(4) == 0 ? some(0, 31) : 1 << random.nextInt(5), d);
            case 6 -> call("dark", d, some(0, 1));
            case 7 -> call("thieves", some(0, 5), d, some(0, 10), some(0, 1));
            default -> call("drawn", d, some(1, 999999), some(0, 1));
        }
    }

    /** A ROW of what would be left, so that something fits. */
    private void tellRow() throws Exception {
        int p = random.nextInt(5);
        int n = 1 + random.nextInt(6);
        int from = random.nextInt(3);
        call("row", 0, random.nextInt(3), from + n);
        int less = random.nextInt(3) == 0 ? random.nextInt(30) : 0;
        for (int y = 1; y <= n; y++) {
            int left = model.remains(p, y);
            call("set", 0, from + y - 1, random.nextInt(40) == 0 ? 5 : Math.max(0, left - less));
        }
        for (int what = 0; what < 4; what++) {
            call("fits", random.nextInt(10) == 0 ? picture() : p, 0, from, n, what);
        }
        call("fits", picture(), some(0, 7), some(0, 9), some(1, 16), some(0, 3));
        call("status");
    }

    private void asks() throws Exception {
        call("ask", picture(), some(0, 1));
        call("trace", some(0, 6));
        call("trace", some(0, 6));
        call("as", picture(), some(0, 5));
        call("status");
    }

    private void look() throws Exception {
        switch (random.nextInt(5)) {
            case 0 -> call("picture", picture(), some(0, 4));
            case 1 -> call("wall", some(0, 3), some(0, 2));
            case 2 -> call("kind", picture());
            case 3 -> call("feed", some(0, 255));
            default -> call("count", some(0, 7));
        }
    }

    private void images() throws Exception {
        if (random.nextInt(3) == 0) {
            call(random.nextBoolean() ? "image" : "recall", some(0, 1));
        }
    }
}
