import java.util.ArrayList;
import java.util.List;
import java.util.function.ToLongFunction;

/**
 * A water city with the same face that counts how often it is asked: nothing is promised about an object after its
 * 512th call, so no test may look at one. It keeps the calls that may change something, and so can make its like.
 */
final class Asked {
    static final int MOST_CALLS = 512;

    private final WaterCity city = new WaterCity();
    private final List<ToLongFunction<WaterCity>> made = new ArrayList<>();
    private int asked = 0;

    /** How many calls may come yet. */
    int left() {
        return MOST_CALLS - asked;
    }

    /** A city of its own, made by the same calls; what was only asked for is left out. */
    Asked twin() {
        Asked twin = new Asked();
        for (ToLongFunction<WaterCity> call : made) {
            twin.make(call);
        }
        return twin;
    }

    long tell(ToLongFunction<WaterCity> call) {
        if (left() <= 0) {
            throw new AssertionError("more than 512 calls");
        }
        asked++;
        return call.applyAsLong(city);
    }

    private long make(ToLongFunction<WaterCity> call) {
        long answer = tell(call);
        made.add(call);
        return answer;
    }

    // ---- The face

    int depth(int cell, int n) {
        return (int) make(x -> x.depth(cell, n));
    }

    int level(int cell, int n) {
        return (int) make(x -> x.level(cell, n));
    }

    int close(int a, int b, boolean is) {
        return (int) make(x -> x.close(a, b, is));
    }

    int narrow(int a, int b, boolean is) {
        return (int) make(x -> x.narrow(a, b, is));
    }

    int bridge(int a, int b, int height) {
        return (int) make(x -> x.bridge(a, b, height));
    }

    int mouth(int cell) {
        return (int) make(x -> x.mouth(cell));
    }

    int gate(int mouth, boolean shut) {
        return (int) make(x -> x.gate(mouth, shut));
    }

    int row(int s, int sort, int n) {
        return (int) make(x -> x.row(s, sort, n));
    }

    int set(int s, int i, long v) {
        return (int) make(x -> x.set(s, i, v));
    }

    int copy(int p, int q, int i, int j, int n) {
        return (int) make(x -> x.copy(p, q, i, j, n));
    }

    long element(int s, int i) {
        return tell(x -> x.element(s, i));
    }

    int show(int s, int house) {
        return (int) make(x -> x.show(s, house));
    }

    int holds(int s) {
        return (int) tell(x -> x.holds(s));
    }

    int harm(int s, int kind) {
        return (int) make(x -> x.harm(s, kind));
    }

    int sea(int s, boolean forecast) {
        return (int) make(x -> x.sea(s, forecast));
    }

    int seaAt(int quarter, boolean forecast) {
        return (int) tell(x -> x.seaAt(quarter, forecast));
    }

    int rule(int what, int n) {
        return (int) make(x -> x.rule(what, n));
    }

    int law(int s) {
        return (int) make(x -> x.law(s));
    }

    int fault() {
        return (int) tell(x -> x.fault());
    }

    int force(int law, boolean is) {
        return (int) make(x -> x.force(law, is));
    }

    int says(int law) {
        return (int) tell(x -> x.says(law));
    }

    int house(int kind, int cell, int floor, int sink, int goods) {
        return (int) make(x -> x.house(kind, cell, floor, sink, goods));
    }

    int raise(int house, int n) {
        return (int) make(x -> x.raise(house, n));
    }

    int about(int house, int what) {
        return (int) tell(x -> x.about(house, what));
    }

    int boat(int cell, int draught, int height, int speed, int rank) {
        return (int) make(x -> x.boat(cell, draught, height, speed, rank));
    }

    int goal(int boat, int cell) {
        return (int) make(x -> x.goal(boat, cell));
    }

    int stepOf(int boat) {
        return (int) tell(x -> x.stepOf(boat));
    }

    int route(int boat, int cell, int n) {
        return (int) make(x -> x.route(boat, cell, n));
    }

    int sails(int boat, int what) {
        return (int) tell(x -> x.sails(boat, what));
    }

    int quarters(int n) {
        return (int) make(x -> x.quarters(n));
    }

    int foretold(int cell, int n) {
        return (int) tell(x -> x.foretold(cell, n));
    }

    int best(int n, int what) {
        return (int) make(x -> x.best(n, what));
    }

    int dredge(int cell, int n) {
        return (int) make(x -> x.dredge(cell, n));
    }

    int image() {
        return (int) make(x -> x.image());
    }

    int restore() {
        return (int) make(x -> x.restore());
    }

    int cell(int cell, int what) {
        return (int) tell(x -> x.cell(cell, what));
    }

    int way(int a, int b, int what) {
        return (int) tell(x -> x.way(a, b, what));
    }

    int status(int what) {
        return (int) tell(x -> x.status(what));
    }
}
