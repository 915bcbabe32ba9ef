import java.lang.reflect.InvocationTargetException;
import java.lang.reflect.Method;
import java.lang.reflect.Modifier;
import java.util.ArrayList;
import java.util.Arrays;
import java.util.Comparator;
import java.util.List;

/**
 * Every call with numbers from the least to the greatest there are, in an empty, a busy, a full and a late city: none
 * throws, and each answers as CityModel does.
 */
public final class WildTests {
    private static final int MIN = Integer.MIN_VALUE;
    private static final int MAX = Integer.MAX_VALUE;
    private static final int COUNTS = 8;
    private static final int[][] NUMBERS = {
        {},
        {MIN, -301, -2, -1, 0, 1, 2, 3, 5, 7, 8, 11, 12, 24, 25, 200, 201, 20_000, MAX},
        {MIN, -301, -300, -2, -1, 0, 1, 2, 3, 5, 6, 7, 8, 9, 12, 20, 24, 25, 48, 49, 60, 61, 96, 200, 300, 301, MAX},
        {MIN, -2, -1, 0, 1, 5, 7, 24, 25, 96, 97, 99, 100, MAX},
        {},
        {MIN, -1, 0, 1, 9, MAX}};
    private static final long[] LONGS = {Long.MIN_VALUE, MIN, -129, -128, -1, 0, 1, 'g', 255, 256, MAX, 1L << 32,
        Long.MAX_VALUE};

    private static final String BUSY = "mouth 0/mouth 24/gate 1 1/row 0 0 5/set 0 1 -2/row 1 1 3/set 1 0 60/set 1 2 -35"
        + "/row 2 2 4/set 2 0 70/set 2 3 40/row 3 3 2/set 3 0 9/sea 1 0/sea 2 1/row 7 0 6/set 7 0 103/set 7 1 48"
        + "/set 7 2 58/set 7 3 102/set 7 4 62/set 7 5 51/law 7/law 7/force 1 0/house 0 0 3 1 0/house 1 1 2 2 7"
        + "/house 2 5 1 0 0/boat 0 5 20 9 3/boat 23 25 20 4 3/boat 12 3 99 5 0/goal 0 24/goal 1 0/goal 2 4/depth 7 33"
        + "/level 6 12/close 10 11 1/narrow 0 1 1/bridge 1 2 25/rule 0 5/rule 1 6/rule 2 12/show 4 0/show 5 1"
        + "/quarters 3/image/quarters 2/level 20 7";
    private static final String FULL = BUSY + "/law 7/law 7/law 7/mouth 12" + "/house 1 9 4 3 2".repeat(9)
        + "/boat 9 1 1 1 1".repeat(3) + "/goal 5 7" + "/row 0 0 96/row 6 3 96/copy 6 6 0 0 96" + "/quarters 90/image";
    private static final String LATE = "quarters 200/".repeat(99) + "quarters 150/" + BUSY;
    private static final String[] STATES = {"fault", BUSY, FULL, LATE};

    private final Check check;
    private final List<Method> face = new ArrayList<>();
    private final String state;
    private WaterCity x;
    private CityModel m;
    private int asked = 0;

    private WildTests(Check check, String state) {
        this.check = check;
        this.state = state;
        for (Method method : WaterCity.class.getDeclaredMethods()) {
            if (Modifier.isPublic(method.getModifiers())) {
                face.add(method);
            }
        }
        face.sort(Comparator.comparing(Method::getName));
    }

    public static void main(String[] args) throws ReflectiveOperationException {
        Check check = new Check("WildTests");
        for (String state : STATES) {
            new WildTests(check, state).go();
        }
        check.end();
    }

    private void go() throws ReflectiveOperationException {
        for (Method method : face) {
            begin();
            Class<?>[] types = method.getParameterTypes();
            callEach(method, new Object[types.length], 0);
            endCity();
        }
    }

    private void begin() throws ReflectiveOperationException {
        x = new WaterCity();
        m = new CityModel();
        asked = 0;
        for (String line : state.split("/")) {
            String[] words = line.split(" ");
            for (Method method : face) {
                if (method.getName().equals(words[0])) {
                    call(method, arguments(method.getParameterTypes(), words));
                }
            }
        }
    }

    private static Object[] arguments(Class<?>[] types, String[] words) {
        Object[] values = new Object[types.length];
        for (int i = 0; i < values.length; i++) {
            int number = Integer.parseInt(words[i + 1]);
            values[i] = types[i] == boolean.class ? (Object) (number == 1)
                : types[i] == long.class ? (Object) (long) number : (Object) number;
        }
        return values;
    }

    private void callEach(Method method, Object[] values, int from) throws ReflectiveOperationException {
        if (from == values.length) {
            if (asked + COUNTS >= Asked.MOST_CALLS) {
                endCity();
                begin();
            }
            call(method, values);
            return;
        }
        Class<?> type = method.getParameterTypes()[from];
        if (type == boolean.class) {
            for (boolean is : new boolean[] {false, true}) {
                values[from] = is;
                callEach(method, values, from + 1);
            }
        } else if (type == long.class) {
            for (long n : LONGS) {
                values[from] = n;
                callEach(method, values, from + 1);
            }
        } else {
            for (int n : NUMBERS[values.length]) {
                values[from] = n;
                callEach(method, values, from + 1);
            }
        }
    }

    private void call(Method method, Object[] values) throws ReflectiveOperationException {
        asked++;
        String told = method.getName() + Arrays.toString(values);
        try {
            Object got = method.invoke(x, values);
            Object due = CityModel.class.getDeclaredMethod(method.getName(), method.getParameterTypes())
                .invoke(m, values);
            check.same(told, ((Number) got).longValue(), ((Number) due).longValue());
        } catch (InvocationTargetException thrown) {
            check.isTrue(told + " throws " + thrown.getCause(), false);
        }
    }

    private void endCity() {
        for (int what = 11; what < 11 + COUNTS; what++) {
            check.same("at the end: status(" + what + ")", x.status(what), m.status(what));
        }
    }
}
