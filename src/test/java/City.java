import java.util.function.LongSupplier;

/** A water city under test, with short ways to build it and to look at all of it. */
final class City {
    static final int NONE = WaterCity.NONE;

    final WaterCity x = new WaterCity();
    private final Check check;

    City(Check check) {
        this.check = check;
    }

    /** The answer is the one that is due, and no refusal is counted. */
    void due(String call, long due, LongSupplier answer) {
        long[] before = refusals();
        long got = answer.getAsLong();
        check.same(call, got, due);
        long[] after = refusals();
        for (int k = 0; k < before.length; k++) {
            check.same(call + ": how many refusals " + -(k + 1), after[k], before[k]);
        }
    }

    /** The call is refused with that number, the refusal is counted, and nothing else changes. */
    void refused(String call, int number, LongSupplier answer) {
        long[] before = refusals();
        String all = all();
        long got = answer.getAsLong();
        check.same(call, got, number);
        check.isTrue(call + " changes nothing", all.equals(all()));
        long[] after = refusals();
        for (int k = 0; k < before.length; k++) {
            long more = k == -number - 1 ? 1 : 0;
            check.same(call + ": how many refusals " + -(k + 1), after[k], before[k] + more);
        }
    }

    long[] refusals() {
        long[] counts = new long[7];
        for (int k = 0; k < 7; k++) {
            counts[k] = x.status(11 + k);
        }
        return counts;
    }

    /** All that can be asked without a refusal, but for refusals and what rules are. */
    String all() {
        StringBuilder text = new StringBuilder();
        for (int c = 0; c < 25; c++) {
            for (int what = 0; what < 5; what++) {
                text.append(x.cell(c, what)).append(' ');
            }
            for (int what = 0; what < 3; what++) {
                text.append(x.way(c, c + 1, what)).append(' ').append(x.way(c, c + 5, what)).append(' ');
            }
        }
        for (int h = 0; h < 12; h++) {
            for (int what = 0; what < 8; what++) {
                text.append(x.about(h, what)).append(' ');
            }
        }
        for (int b = 0; b < 6; b++) {
            for (int what = 0; what < 6; what++) {
                text.append(x.sails(b, what)).append(' ');
            }
            text.append(x.stepOf(b)).append(' ');
        }
        for (int what = 0; what < 11; what++) {
            text.append(x.status(what)).append(' ');
        }
        text.append(x.status(18)).append(' ');
        for (int k = 0; k < 5; k++) {
            text.append(x.says(k)).append(' ');
        }
        for (int q = 0; q < 96; q++) {
            text.append(x.seaAt(q, false)).append(' ').append(x.seaAt(q, true)).append(' ');
        }
        return text.append(shelves()).toString();
    }

    String shelves() {
        StringBuilder text = new StringBuilder();
        for (int s = 0; s < 8; s++) {
            text.append(x.holds(s)).append(':');
            for (int i = 0; i < 97; i++) {
                text.append(x.element(s, i)).append(' ');
            }
        }
        return text.toString();
    }

    void letters(int s, int sort, String text) {
        check.same("row", x.row(s, sort, text.length()), 1);
        for (int i = 0; i < text.length(); i++) {
            check.same("set", x.set(s, i, text.charAt(i)), 1);
        }
    }

    /** A law by its text, read from shelf 7. */
    int law(String text) {
        letters(7, 0, text);
        return x.law(7);
    }

    /** The sea, or the forecast, by shelf 6. */
    void heights(boolean forecast, int... heights) {
        check.same("row", x.row(6, 1, heights.length), 1);
        for (int i = 0; i < heights.length; i++) {
            check.same("set", x.set(6, i, heights[i]), 1);
        }
        check.same("sea", x.sea(6, forecast), heights.length);
    }

    void bothHeights(int... heights) {
        heights(false, heights);
        heights(true, heights);
    }

    void live(int quarters) {
        int left = quarters;
        while (left > 0) {
            int n = Math.min(left, 200);
            x.quarters(n);
            left -= n;
        }
    }

    /** Closes every way of a cell. */
    void wallIn(int cell) {
        for (int other : new int[] {cell - 5, cell - 1, cell + 1, cell + 5}) {
            if (x.way(cell, other, 0) != NONE) {
                x.close(cell, other, true);
            }
        }
    }

    void wallInAll() {
        for (int c = 0; c < 25; c++) {
            wallIn(c);
        }
    }
}
