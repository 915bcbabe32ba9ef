import java.util.ArrayList;
import java.util.List;
import java.util.function.ToLongFunction;

/**
 * A water city under test, with the calls that made it what it is. A refused call is made in twins, too: one city
 * with it and one without have to answer alike from then on. No city is asked more than 512 times, for what later
 * calls answer is free.
 */
final class Scene {
    static final int NONE = WaterCity.NONE;
    static final int MIN = Integer.MIN_VALUE;
    static final int MAX = Integer.MAX_VALUE;
    private static final int MOST_CALLS = 512;
    private static final int FIRST_COUNT = 11;
    private static final int REFUSALS = 7;
    private static final List<Scene> seen = new ArrayList<>();

    /** A call with one number of it left open. */
    interface CallWith {
        long of(WaterCity x, int n);
    }

    private final WaterCity city = new WaterCity();
    private final List<ToLongFunction<WaterCity>> calls = new ArrayList<>();
    private final long[] refusals = new long[REFUSALS + 1];
    private int asked = 0;

    Scene() {
        seen.add(this);
    }

    /** What every test ends with: no city has counted a refusal that its test did not name. */
    static void endAll() {
        List<Scene> all = new ArrayList<>(seen);
        seen.clear();
        for (Scene scene : all) {
            scene.countsAreAsDue();
        }
    }

    static void forgetAll() {
        seen.clear();
    }

    private static void fail(String text) {
        StackTraceElement at = StackWalker.getInstance().walk(frames -> frames
            .filter(frame -> !frame.getClassName().equals(Scene.class.getName()))
            .findFirst().map(StackWalker.StackFrame::toStackTraceElement).orElse(null));
        throw new AssertionError(at == null ? text : at.getFileName() + ":" + at.getLineNumber() + ": " + text);
    }

    private long ask(ToLongFunction<WaterCity> call) {
        asked++;
        if (asked > MOST_CALLS) {
            fail("more than 512 calls");
        }
        return call.applyAsLong(city);
    }

    /** A call that is a part of the scene; its answer is not looked at. */
    Scene does(ToLongFunction<WaterCity> call) {
        ask(call);
        calls.add(call);
        return this;
    }

    /** The call answers what is due. (That it is not refused is seen when the test ends.) */
    Scene due(long due, ToLongFunction<WaterCity> call) {
        long got = ask(call);
        calls.add(call);
        if (got != due) {
            fail("answered " + got + ", due is " + due);
        }
        return this;
    }

    Scene dueEach(long due, CallWith call, int... numbers) {
        for (int n : numbers) {
            long got = ask(x -> call.of(x, n));
            calls.add(x -> call.of(x, n));
            if (got != due) {
                fail("with " + n + " answered " + got + ", due is " + due);
            }
        }
        return this;
    }

    /** The call is refused with that number, it is counted once, and nothing else changes. */
    Scene refused(int number, ToLongFunction<WaterCity> call) {
        looksAlike(call, Looks.fault());
        return refusedButFault(number, call);
    }

    /** A law that is refused leaves its FAULT, and changes nothing beside it. */
    Scene refusedButFault(int number, ToLongFunction<WaterCity> call) {
        looksAlike(call, Looks.butFault());
        long got = ask(call);
        calls.add(call);
        if (got != number) {
            fail("answered " + got + ", due is the refusal " + number);
        }
        refusals[-number]++;
        countsAreAsDue();
        return this;
    }

    Scene refusedEach(int number, CallWith call, int... numbers) {
        for (int n : numbers) {
            refused(number, x -> call.of(x, n));
        }
        return this;
    }

    /** Like refused, for scenes in which so much happened that no twins are made. */
    Scene refusedHere(int number, ToLongFunction<WaterCity> call) {
        due(number, call);
        refusals[-number]++;
        return this;
    }

    /** Whether the call is made or not, nothing else answers otherwise, now or later (but for refusals). */
    Scene changesNothing(ToLongFunction<WaterCity> call) {
        looksAlike(call, Looks.fault());
        looksAlike(call, Looks.butFault());
        return this;
    }

    private void looksAlike(ToLongFunction<WaterCity> call, List<List<ToLongFunction<WaterCity>>> looks) {
        for (List<ToLongFunction<WaterCity>> look : looks) {
            if (calls.size() + 1 + look.size() > MOST_CALLS) {
                fail("too many calls for a twin");
            }
            WaterCity with = twin();
            WaterCity without = twin();
            call.applyAsLong(with);
            for (int i = 0; i < look.size(); i++) {
                long there = look.get(i).applyAsLong(with);
                long here = look.get(i).applyAsLong(without);
                if (there != here) {
                    fail("something changes: look " + i + " answers " + there + " instead of " + here);
                }
            }
        }
    }

    private WaterCity twin() {
        WaterCity twin = new WaterCity();
        for (ToLongFunction<WaterCity> call : calls) {
            call.applyAsLong(twin);
        }
        return twin;
    }

    private void countsAreAsDue() {
        for (int k = 1; k <= REFUSALS; k++) {
            int what = FIRST_COUNT + k - 1;
            long got = ask(x -> x.status(what));
            if (got != refusals[k]) {
                fail("refusals " + -k + " are " + got + ", due are " + refusals[k]);
            }
        }
    }

    // ---- Short ways to build

    Scene row(int s, int sort, long... elements) {
        due(1, x -> x.row(s, sort, elements.length));
        for (int i = 0; i < elements.length; i++) {
            int at = i;
            // a new row has 0 there already
            if (elements[i] != 0) {
                due(1, x -> x.set(s, at, elements[at]));
            }
        }
        return this;
    }

    Scene letters(int s, int sort, String text) {
        long[] elements = new long[text.length()];
        for (int i = 0; i < elements.length; i++) {
            elements[i] = text.charAt(i);
        }
        return row(s, sort, elements);
    }

    /** A law that can be read, by shelf 7; its number is not looked at. */
    Scene law(String text) {
        return letters(7, 0, text).does(x -> x.law(7)).due(NONE, x -> x.fault());
    }

    Scene sea(long... heights) {
        return row(6, 1, heights).due(heights.length, x -> x.sea(6, false));
    }

    Scene forecast(long... heights) {
        return row(6, 1, heights).due(heights.length, x -> x.sea(6, true));
    }

    Scene both(long... heights) {
        return sea(heights).due(heights.length, x -> x.sea(6, true));
    }

    Scene live(int quarters) {
        for (int left = quarters; left > 0; left -= 200) {
            int n = Math.min(left, 200);
            does(x -> x.quarters(n));
        }
        return this;
    }

    /** Closes every way of a cell. */
    Scene island(int cell) {
        return closeAll(cell, NONE);
    }

    /** Closes every way of two cells but that between them, and levels can't flow elsewhere. */
    Scene pair(int a, int b) {
        return closeAll(a, b).closeAll(b, a);
    }

    private Scene closeAll(int cell, int but) {
        int[] beside = {cell % 5 > 0 ? cell - 1 : NONE, cell % 5 < 4 ? cell + 1 : NONE, cell - 5, cell + 5};
        for (int other : beside) {
            if (other >= 0 && other < 25 && other != but) {
                does(x -> x.close(cell, other, true));
            }
        }
        return this;
    }

    // ---- Scenes for many tests

    /**
     * A city in which every kind of thing is otherwise than at first: shelves 0 to 3 hold rows of sorts 0 to 3, 4 and
     * 5 a house and a shop, 6 nothing, 7 letters with a fault at 3; two mouths, laws, boats and three houses; an
     * image that is no longer what is.
     */
    static Scene busy() {
        Scene s = new Scene();
        s.does(x -> x.mouth(0)).does(x -> x.mouth(24)).does(x -> x.gate(1, true));
        s.row(0, 0, 1, -2, 3, -4, 5).row(1, 1, 60, -20, 35).row(2, 2, 70, -10, 40, 5).row(3, 3, 9, 8);
        s.does(x -> x.sea(1, false)).does(x -> x.sea(2, true));
        s.law("g0:f>69").due(1, x -> x.law(7)).does(x -> x.force(1, false));
        s.does(x -> x.house(0, 0, 3, 1, 0)).does(x -> x.house(1, 1, 2, 2, 7)).does(x -> x.house(2, 5, 1, 0, 0));
        s.does(x -> x.boat(0, 5, 20, 9, 3)).does(x -> x.boat(23, 25, 20, 4, 3)).does(x -> x.boat(12, 3, 99, 5, 0));
        s.does(x -> x.goal(0, 24)).does(x -> x.goal(1, 0)).does(x -> x.goal(2, 4));
        s.does(x -> x.depth(7, 33)).does(x -> x.level(6, 12)).does(x -> x.close(10, 11, true));
        s.does(x -> x.narrow(0, 1, true)).does(x -> x.bridge(1, 2, 25));
        s.does(x -> x.rule(0, 5)).does(x -> x.rule(1, 6)).does(x -> x.rule(2, 12));
        s.does(x -> x.show(4, 0)).does(x -> x.show(5, 1)).live(3);
        s.does(x -> x.image()).live(2).does(x -> x.level(20, 7)).does(x -> x.depth(3, 44));
        s.does(x -> x.set(7, 3, 'x')).refusedHere(-6, x -> x.law(7)).due(3, x -> x.fault());
        return s;
    }

    /** A city that has as much as may be: 3 mouths (in 0, 12 and 24), 5 laws, 12 houses, 6 boats. */
    static Scene full() {
        Scene s = new Scene();
        s.does(x -> x.mouth(0)).does(x -> x.mouth(12)).does(x -> x.mouth(24));
        s.law("g2:s>9");
        for (int k = 1; k < 5; k++) {
            s.does(x -> x.law(7));
        }
        for (int h = 0; h < 12; h++) {
            int number = h;
            s.does(x -> x.house(number % 3, 2 * number, 5, 1, 9));
        }
        for (int b = 0; b < 6; b++) {
            int number = b;
            s.does(x -> x.boat(number, 5, 9, 9, number));
        }
        return s.does(x -> x.goal(5, 24)).does(x -> x.image());
    }

    /** A city whose last quarter, 20,000, is that many quarters ahead. */
    static Scene late(int ahead) {
        return new Scene().live(20_000 - ahead);
    }
}
