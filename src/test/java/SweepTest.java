import java.lang.reflect.Method;
import java.lang.reflect.Modifier;
import java.util.Arrays;

/** Rule 7 of LANGUAGE.md: no call ever throws, for any arguments in any state; here with numbers at and around all limits. */
public final class SweepTest {
    private static final int[] MANY = {
        Integer.MIN_VALUE, -1000000, -3, -2, -1, 0, 1, 2, 3, 4, 5, 6, 7, 8, 9, 16, 17, 24, 25, 31, 32, 39, 40, 41, 60, 61,
        100, 255, 256, 999, 1000, 999999, 1000000, Integer.MAX_VALUE};
    private static final int[] FEW = {Integer.MIN_VALUE, -1, 0, 1, 4, 7, 8, 16, 40, 41, Integer.MAX_VALUE};
    /** Objects are made anew behind so many calls, as none is used for more than 512. */
    private static final int CALLS = 200;

    private static PortraitYears x = null;
    private static int calls = 0;

    public static void main(String[] args) {
        for (int state = 0; state < 5; state++) {
            for (Method method : PortraitYears.class.getDeclaredMethods()) {
                if (Modifier.isPublic(method.getModifiers())) {
                    sweep(state, method);
                }
            }
        }
        Check.end();
    }

    private static PortraitYears inState(int state) {
        switch (state) {
            case 0: return new PortraitYears();
            case 1: return Check.told("g1,0;w0,0;");
            case 2: return Check.told("g5,99;w9,9;w0,0;w5,5;w1,1;o1,60,0;c9,1,0;u1,60,0;p9,60,0;s1,1,0;");
            case 3: return worn(Check.told(Check.FIVE));
            default: return old(Check.told(Check.FIVE));
        }
    }

    /** ROWS of all LANES, IMAGES, ACTS, a tape with bytes, somebody DEAD. */
    private static PortraitYears worn(PortraitYears x) {
        x.row(0, 0, 0);
        x.row(1, 1, 40);
        x.row(4, 2, 17);
        x.row(7, 2, 40);
        x.image(0);
        x.years(24);
        x.deed(4, 5);
        x.image(1);
        x.ask(1, 0);
        for (int n = 0; n < 99; n++) {
            x.feed('g');
        }
        return x;
    }

    private static PortraitYears old(PortraitYears x) {
        for (int i = 0; i < 41; i++) {
            x.years(24);
        }
        x.years(15);
        return x;
    }

    private static void sweep(int state, Method method) {
        int[] values = method.getParameterCount() > 3 ? FEW : MANY;
        int combinations = (int) Math.pow(values.length, method.getParameterCount());
        calls = 0;
        for (int number = 0; number < combinations; number++) {
            if (calls % CALLS == 0) {
                x = inState(state);
            }
            calls++;
            Object[] arguments = new Object[method.getParameterCount()];
            for (int i = 0, rest = number; i < arguments.length; i++, rest /= values.length) {
                arguments[i] = values[rest % values.length];
            }
            call(state, method, arguments);
        }
    }

    private static void call(int state, Method method, Object[] arguments) {
        String what = method.getName() + Arrays.toString(arguments) + " in state " + state;
        try {
            int answer = (int) method.invoke(x, arguments);
            boolean least = answer >= -1000200 || method.getName().equals("set");
            Check.holds(what + " answers " + answer, least);
        } catch (ReflectiveOperationException thrown) {
            Check.holds(what + " threw " + thrown.getCause(), false);
        }
    }
}
