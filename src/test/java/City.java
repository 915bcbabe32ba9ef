import java.util.ArrayList;
import java.util.List;
import java.util.function.LongSupplier;
import java.util.function.ToLongFunction;

/** A water city under test, with short ways to build it and to look at all of it. */
final class City {
    static final int NONE = WaterCity.NONE;
    private static final int FIRST_COUNT = 11;
    private static final int REFUSALS = 7;

    final Asked x;
    private final Check check;
    private final long[] refusals = new long[REFUSALS];

    City(Check check) {
        this(check, new Asked());
        check.atEnd(this::countsAreAsDue);
    }

    private City(Check check, Asked x) {
        this.check = check;
        this.x = x;
    }

    /** A city of its own, made by the same calls. */
    City twin() {
        return new City(check, x.twin());
    }

    /** The answer is the one that is due. (That no refusal is counted is seen at the end.) */
    void due(String call, long due, LongSupplier answer) {
        check.same(call, answer.getAsLong(), due);
    }

    /** The call is refused with that number, the refusal is counted, and nothing else changes. */
    void refused(String call, int number, LongSupplier answer) {
        List<Long> all = all();
        refusedAlone(call, number, answer);
        check.isTrue(call + " changes nothing", all.equals(all()));
    }

    /** The call is refused with that number; what else changes is not looked at. */
    void refusedAlone(String call, int number, LongSupplier answer) {
        check.same(call, answer.getAsLong(), number);
        refusals[-number - 1]++;
        check.same(call + ": how many " + number, countOf(-number - 1), refusals[-number - 1]);
    }

    private long countOf(int k) {
        return x.status(FIRST_COUNT + k);
    }

    private void countsAreAsDue() {
        for (int k = 0; k < REFUSALS; k++) {
            check.same("at the end: how many refusals " + -(k + 1), countOf(k), refusals[k]);
        }
    }

    /** All that can be asked but for refusals and the fault, each part of it in a city of its own. */
    List<Long> all() {
        List<Long> answers = new ArrayList<>();
        for (List<ToLongFunction<WaterCity>> look : Looks.butFault()) {
            Asked twin = x.twin();
            for (ToLongFunction<WaterCity> asks : look) {
                answers.add(twin.tell(asks));
            }
        }
        return answers;
    }

    void letters(int s, int sort, String text) {
        check.same("row", x.row(s, sort, text.length()), 1);
        for (int i = 0; i < text.length(); i++) {
            check.same("set", x.set(s, i, text.charAt(i)), 1);
        }
    }

    /** A law by its text, read from shelf 7. */
    int law(String text) {
        letters(7, 0, text);
        return x.law(7);
    }

    /** The sea, or the forecast, by shelf 6. */
    void heights(boolean forecast, int... heights) {
        check.same("row", x.row(6, 1, heights.length), 1);
        for (int i = 0; i < heights.length; i++) {
            check.same("set", x.set(6, i, heights[i]), 1);
        }
        check.same("sea", x.sea(6, forecast), heights.length);
    }

    void bothHeights(int... heights) {
        heights(false, heights);
        heights(true, heights);
    }

    void live(int quarters) {
        int left = quarters;
        while (left > 0) {
            int n = Math.min(left, 200);
            x.quarters(n);
            left -= n;
        }
    }

    /** Closes every way of a cell. */
    void wallIn(int cell) {
        for (int other : new int[] {cell - 5, cell - 1, cell + 1, cell + 5}) {
            if (x.way(cell, other, 0) != NONE) {
                x.close(cell, other, true);
            }
        }
    }

    void wallInAll() {
        for (int c = 0; c < 25; c++) {
            wallIn(c);
        }
    }
}
