import java.util.ArrayList;
import java.util.List;
import java.util.function.ToLongFunction;

/** All that a city can be asked, in parts that are small enough for one city each. */
final class Looks {
    private static final List<List<ToLongFunction<WaterCity>>> BUT_FAULT = List.of(
        lagoon(), cityAsItIs(), tides(), elements(0), elements(2), elements(4), elements(6), rulesAndImage(), future());
    private static final List<List<ToLongFunction<WaterCity>>> FAULT = List.of(List.of(WaterCity::fault));

    private Looks() {
    }

    static List<List<ToLongFunction<WaterCity>>> butFault() {
        return BUT_FAULT;
    }

    static List<List<ToLongFunction<WaterCity>>> fault() {
        return FAULT;
    }

    private static List<ToLongFunction<WaterCity>> lagoon() {
        List<ToLongFunction<WaterCity>> looks = new ArrayList<>();
        cells(looks, 5);
        for (int c = 0; c < 25; c++) {
            int cell = c;
            for (int w = 0; w < 3; w++) {
                int what = w;
                if (c % 5 < 4) {
                    looks.add(x -> x.way(cell, cell + 1, what));
                }
                if (c < 20) {
                    looks.add(x -> x.way(cell, cell + 5, what));
                }
            }
        }
        return looks;
    }

    private static void cells(List<ToLongFunction<WaterCity>> looks, int whats) {
        for (int c = 0; c < 25; c++) {
            int cell = c;
            for (int w = 0; w < whats; w++) {
                int what = w;
                looks.add(x -> x.cell(cell, what));
            }
        }
    }

    private static void things(List<ToLongFunction<WaterCity>> looks) {
        for (int n = 0; n < 12; n++) {
            int number = n;
            for (int w = 0; w < 8; w++) {
                int what = w;
                looks.add(x -> x.about(number, what));
                if (n < 6 && w < 6) {
                    looks.add(x -> x.sails(number, what));
                }
            }
        }
        for (int w = 0; w <= 10; w++) {
            int what = w;
            looks.add(x -> x.status(what));
        }
        looks.add(x -> x.status(18));
    }

    private static List<ToLongFunction<WaterCity>> cityAsItIs() {
        List<ToLongFunction<WaterCity>> looks = new ArrayList<>();
        things(looks);
        for (int n = 0; n < 8; n++) {
            int number = n;
            looks.add(x -> x.stepOf(number));
            looks.add(x -> x.says(number));
            looks.add(x -> x.holds(number));
        }
        return looks;
    }

    private static List<ToLongFunction<WaterCity>> tides() {
        List<ToLongFunction<WaterCity>> looks = new ArrayList<>();
        for (int q = 0; q < 97; q++) {
            int quarter = q;
            looks.add(x -> x.seaAt(quarter, false));
            looks.add(x -> x.seaAt(quarter, true));
        }
        return looks;
    }

    /** The elements of a shelf, and of the next one. */
    private static List<ToLongFunction<WaterCity>> elements(int shelf) {
        List<ToLongFunction<WaterCity>> looks = new ArrayList<>();
        for (int i = 0; i < 96; i++) {
            int at = i;
            looks.add(x -> x.element(shelf, at));
            looks.add(x -> x.element(shelf + 1, at));
        }
        return looks;
    }

    /** What rules are can only be asked by giving others; then what the image has. */
    private static List<ToLongFunction<WaterCity>> rulesAndImage() {
        List<ToLongFunction<WaterCity>> looks = new ArrayList<>();
        looks.add(x -> x.rule(0, 1));
        looks.add(x -> x.rule(1, 8));
        looks.add(x -> x.rule(2, 1));
        looks.add(x -> x.restore());
        cells(looks, 2);
        things(looks);
        looks.add(x -> x.rule(0, 2));
        looks.add(x -> x.rule(1, 7));
        looks.add(x -> x.rule(2, 2));
        return looks;
    }

    private static List<ToLongFunction<WaterCity>> future() {
        List<ToLongFunction<WaterCity>> looks = new ArrayList<>();
        looks.add(x -> x.quarters(100));
        cells(looks, 3);
        things(looks);
        return looks;
    }
}
