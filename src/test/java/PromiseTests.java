import java.util.List;

/** One test a promise: ordinary inputs, the edges that the document names, wrong inputs. */
public final class PromiseTests {
    private static final int NONE = WaterCity.NONE;
    private static final long BIG = Long.MAX_VALUE;
    private static final int[] NO_NUMBERS = {-1, Integer.MIN_VALUE, Integer.MAX_VALUE};
    private static final Check check = new Check("PromiseTests");

    public static void main(String[] args) {
        newObject();
        lagoonByHand();
        shelves();
        seaAndRules();
        laws();
        houses();
        boats();
        time();
        answers();
        check.end();
    }

    private static City fresh() {
        return new City(check);
    }

    private static void newObject() {
        promise1();
    }

    private static void lagoonByHand() {
        promise2();
        promise3();
        promise4();
        promise5();
        promise6();
        promise7();
        promise8();
        promise34();
    }

    private static void shelves() {
        promise9();
        promise10();
        promise11();
        promise12();
        promise13();
        promise14();
        promise15();
    }

    private static void seaAndRules() {
        promise16();
        promise17();
        promise18();
    }

    private static void laws() {
        promise19();
        promise20();
        promise21();
        promise22();
        promise33();
    }

    private static void houses() {
        promise23();
        promise24();
        promise25();
    }

    private static void boats() {
        promise26();
        promise27();
        promise28();
        promise29();
        promise30();
    }

    private static void time() {
        promise31Mouths();
        promise31Flow();
        promise31Laws();
        promise31Boats();
        promise31Ranks();
        promise31Wear();
        promise31Houses();
        promise31TooLateInVain();
        promise31Days();
        promise31Refusals();
        promise32();
        promise35And36();
    }

    private static void answers() {
        promise37();
        promise38();
        promise39();
    }

    // ---- Promise 1

    private static void promise1() {
        City c = fresh();
        for (int what = 0; what <= 18; what++) {
            int w = what;
            c.due("status(" + what + ") of a new object", 0, () -> c.x.status(w));
        }
        for (int cell = 0; cell < 25; cell++) {
            int at = cell;
            c.due("DEPTH at first", 20, () -> c.x.cell(at, 0));
            c.due("LEVEL at first", 0, () -> c.x.cell(at, 1));
            c.due("WALL at first", 1000, () -> c.x.cell(at, 2));
            c.due("RAN at first", 0, () -> c.x.cell(at, 3));
            c.due("MOUTH at first", NONE, () -> c.x.cell(at, 4));
        }
        for (int s = 0; s < 8; s++) {
            int shelf = s;
            c.due("holds at first", NONE, () -> c.x.holds(shelf));
        }
        c.due("about at first", NONE, () -> c.x.about(0, 0));
        c.due("sails at first", NONE, () -> c.x.sails(0, 0));
        c.due("says at first", NONE, () -> c.x.says(0));
        c.due("fault at first", NONE, () -> c.x.fault());
        c.due("THE SEA at first", 0, () -> c.x.seaAt(3, false));
        c.due("THE FORECAST at first", 0, () -> c.x.seaAt(3, true));
        c.due("MISS at first", 0, () -> c.x.rule(0, 0));
        c.due("LIMIT at first", 9, () -> c.x.rule(1, 9));
        c.due("CALM at first", 0, () -> c.x.rule(2, 0));
        check.same("NONE", WaterCity.NONE, -1);
    }

    // ---- The lagoon by hand

    private static void promise2() {
        City c = fresh();
        c.due("depth(0, 60)", 20, () -> c.x.depth(0, 60));
        c.due("depth(0, 0)", 60, () -> c.x.depth(0, 0));
        c.due("depth(24, 7)", 20, () -> c.x.depth(24, 7));
        c.due("DEPTH of 0", 0, () -> c.x.cell(0, 0));
        c.due("DEPTH of 24", 7, () -> c.x.cell(24, 0));
        c.due("DEPTH of 23", 20, () -> c.x.cell(23, 0));
        c.refused("depth(25, 5)", -1, () -> c.x.depth(25, 5));
        c.refused("depth(-1, 5)", -1, () -> c.x.depth(-1, 5));
        c.refused("depth(0, 61)", -6, () -> c.x.depth(0, 61));
        c.refused("depth(0, -1)", -6, () -> c.x.depth(0, -1));
        c.refused("depth(25, 61)", -1, () -> c.x.depth(25, 61));
        for (int n : NO_NUMBERS) {
            c.refused("depth of " + n, -1, () -> c.x.depth(n, 1));
            c.refused("depth to " + n, -6, () -> c.x.depth(1, n));
        }
    }

    private static void promise3() {
        City c = fresh();
        c.due("level(0, 300)", 0, () -> c.x.level(0, 300));
        c.due("CAME", 300, () -> c.x.status(18));
        c.due("level(0, -300)", 300, () -> c.x.level(0, -300));
        c.due("CAME", -300, () -> c.x.status(18));
        c.due("level(24, 11)", 0, () -> c.x.level(24, 11));
        c.due("CAME", -289, () -> c.x.status(18));
        c.due("all LEVELS", -289, () -> c.x.status(10));
        c.due("LEVEL of 0", -300, () -> c.x.cell(0, 1));
        c.due("LEVEL of 24", 11, () -> c.x.cell(24, 1));
        c.due("RAN of 0", 0, () -> c.x.cell(0, 3));
        c.refused("level(25, 0)", -1, () -> c.x.level(25, 0));
        c.refused("level(-1, 301)", -1, () -> c.x.level(-1, 301));
        c.refused("level(1, 301)", -6, () -> c.x.level(1, 301));
        c.refused("level(1, -301)", -6, () -> c.x.level(1, -301));
        c.refused("level(1, MIN)", -6, () -> c.x.level(1, Integer.MIN_VALUE));
        c.refused("level(1, MAX)", -6, () -> c.x.level(1, Integer.MAX_VALUE));
    }

    private static boolean areBeside(int a, int b) {
        if (a < 0 || b < 0 || a > 24 || b > 24) {
            return false;
        }
        return Math.abs(a / 5 - b / 5) + Math.abs(a % 5 - b % 5) == 1;
    }

    private static void promise4() {
        City c = fresh();
        for (int a = -1; a <= 25; a++) {
            for (int b = -1; b <= 25; b++) {
                City one = fresh();
                int p = a;
                int q = b;
                if (areBeside(a, b)) {
                    one.due("close(" + a + ", " + b + ")", 1, () -> one.x.close(p, q, true));
                    one.due("the way back is closed", 1, () -> one.x.way(q, p, 0));
                    one.due("close again", 0, () -> one.x.close(q, p, true));
                    one.due("open", 1, () -> one.x.close(p, q, false));
                    one.due("open again", 0, () -> one.x.close(p, q, false));
                } else {
                    one.refusedAlone("close(" + a + ", " + b + ")", -1, () -> one.x.close(p, q, true));
                }
            }
        }
        c.refused("close(4, 5)", -1, () -> c.x.close(4, 5, true));
        c.refused("close(0, 6)", -1, () -> c.x.close(0, 6, false));
        c.refused("close(MAX, MIN)", -1, () -> c.x.close(Integer.MAX_VALUE, Integer.MIN_VALUE, true));
        check.same("close(0, 1)", c.x.close(0, 1, true), 1);
        for (int a = 0; a < 25; a++) {
            for (int b = a + 1; b < 25; b++) {
                if (areBeside(a, b)) {
                    check.same("only one is closed, at " + a + " " + b, c.x.way(a, b, 0), a == 0 && b == 1 ? 1 : 0);
                }
            }
        }
    }

    private static void promise5() {
        City c = fresh();
        c.due("narrow(7, 12)", 1, () -> c.x.narrow(7, 12, true));
        c.due("narrow(12, 7)", 0, () -> c.x.narrow(12, 7, true));
        c.due("way(12, 7, 1)", 1, () -> c.x.way(12, 7, 1));
        c.due("way(7, 8, 1)", 0, () -> c.x.way(7, 8, 1));
        c.due("way(7, 12, 0)", 0, () -> c.x.way(7, 12, 0));
        c.due("wide again", 1, () -> c.x.narrow(12, 7, false));
        c.due("still wide", 0, () -> c.x.narrow(12, 7, false));
        c.due("way(7, 12, 1)", 0, () -> c.x.way(7, 12, 1));
        c.refused("narrow(7, 7)", -1, () -> c.x.narrow(7, 7, true));
        c.refused("narrow(9, 10)", -1, () -> c.x.narrow(9, 10, true));
        c.refused("narrow(24, 25)", -1, () -> c.x.narrow(24, 25, true));
        c.refused("narrow(-1, 4)", -1, () -> c.x.narrow(-1, 4, true));
    }

    private static void promise6() {
        City c = fresh();
        c.due("bridge(5, 6, 0)", NONE, () -> c.x.bridge(5, 6, 0));
        c.due("bridge(6, 5, 99)", 0, () -> c.x.bridge(6, 5, 99));
        c.due("way(5, 6, 2)", 99, () -> c.x.way(5, 6, 2));
        c.due("no bridge", 99, () -> c.x.bridge(5, 6, NONE));
        c.due("way(5, 6, 2)", NONE, () -> c.x.way(5, 6, 2));
        c.due("no bridge again", NONE, () -> c.x.bridge(5, 6, NONE));
        c.refused("bridge(5, 7, 1)", -1, () -> c.x.bridge(5, 7, 1));
        c.refused("bridge(5, 7, 100)", -1, () -> c.x.bridge(5, 7, 100));
        c.refused("bridge(5, 6, 100)", -6, () -> c.x.bridge(5, 6, 100));
        c.refused("bridge(5, 6, -2)", -6, () -> c.x.bridge(5, 6, -2));
        c.refused("bridge(5, 6, MIN)", -6, () -> c.x.bridge(5, 6, Integer.MIN_VALUE));
    }

    private static void promise7() {
        City c = fresh();
        c.due("mouth(24)", 0, () -> c.x.mouth(24));
        c.refused("mouth(24)", -6, () -> c.x.mouth(24));
        c.due("mouth(0)", 1, () -> c.x.mouth(0));
        c.due("mouth(7)", 2, () -> c.x.mouth(7));
        c.refused("mouth(8)", -7, () -> c.x.mouth(8));
        c.refused("mouth(0)", -6, () -> c.x.mouth(0));
        c.refused("mouth(25)", -1, () -> c.x.mouth(25));
        c.refused("mouth(-1)", -1, () -> c.x.mouth(-1));
        c.due("cell(24, 4)", 0, () -> c.x.cell(24, 4));
        c.due("cell(0, 4)", 1, () -> c.x.cell(0, 4));
        c.due("cell(7, 4)", 2, () -> c.x.cell(7, 4));
        c.due("cell(8, 4)", NONE, () -> c.x.cell(8, 4));
        c.due("gates are OPEN at first", 0, () -> c.x.status(1));
        c.due("three MOUTHS", 3, () -> c.x.status(0));
    }

    private static void promise8() {
        City c = fresh();
        c.refused("gate(0)", -1, () -> c.x.gate(0, true));
        c.x.mouth(3);
        c.x.mouth(4);
        c.due("gate(1, true)", 1, () -> c.x.gate(1, true));
        c.due("gate(1, true) again", 0, () -> c.x.gate(1, true));
        c.due("one is SHUT", 1, () -> c.x.status(1));
        c.due("gate(0, false)", 0, () -> c.x.gate(0, false));
        c.due("gate(0, true)", 1, () -> c.x.gate(0, true));
        c.due("two are SHUT", 2, () -> c.x.status(1));
        c.due("gate(1, false)", 1, () -> c.x.gate(1, false));
        c.due("one is SHUT", 1, () -> c.x.status(1));
        c.refused("gate(2)", -1, () -> c.x.gate(2, true));
        for (int n : NO_NUMBERS) {
            c.refused("gate(" + n + ")", -1, () -> c.x.gate(n, false));
        }
        // what was SHUT before a mouth was taken back by THE IMAGE, is OPEN in a new one
        City d = fresh();
        d.x.image();
        d.x.mouth(3);
        d.x.gate(0, true);
        d.x.restore();
        d.due("mouth(3) anew", 0, () -> d.x.mouth(3));
        d.due("its gate is OPEN", 0, () -> d.x.status(1));
    }

    private static void promise34() {
        City c = fresh();
        c.due("dredge(0, 1)", 21, () -> c.x.dredge(0, 1));
        c.due("dredge(0, 20)", 41, () -> c.x.dredge(0, 20));
        c.due("dredge(0, 19)", 60, () -> c.x.dredge(0, 19));
        c.due("dredge(0, 1)", 60, () -> c.x.dredge(0, 1));
        c.x.depth(0, 55);
        c.due("dredge(0, 20) up to 60", 60, () -> c.x.dredge(0, 20));
        c.due("DEPTH of 0", 60, () -> c.x.cell(0, 0));
        c.due("DEPTH of 1", 20, () -> c.x.cell(1, 0));
        c.refused("dredge(1, 0)", -6, () -> c.x.dredge(1, 0));
        c.refused("dredge(1, 21)", -6, () -> c.x.dredge(1, 21));
        c.refused("dredge(1, MAX)", -6, () -> c.x.dredge(1, Integer.MAX_VALUE));
        c.refused("dredge(25, 0)", -1, () -> c.x.dredge(25, 0));
        c.refused("dredge(-1, 5)", -1, () -> c.x.dredge(-1, 5));
    }

    // ---- Shelves

    private static void promise9() {
        City c = fresh();
        c.due("row(0, 0, 96)", 1, () -> c.x.row(0, 0, 96));
        c.due("row(7, 3, 0)", 1, () -> c.x.row(7, 3, 0));
        c.due("holds(0)", 100, () -> c.x.holds(0));
        c.due("holds(7)", 103, () -> c.x.holds(7));
        c.x.set(0, 95, 9);
        c.due("row(0, 1, 96) anew", 1, () -> c.x.row(0, 1, 96));
        c.due("its element is 0 at first", 0, () -> c.x.element(0, 95));
        c.x.house(0, 0, 0, 0, 0);
        c.x.show(1, 0);
        c.due("row on a shelf with a HOUSE", 1, () -> c.x.row(1, 2, 5));
        c.due("holds(1)", 102, () -> c.x.holds(1));
        c.refused("row(8, 0, 1)", -1, () -> c.x.row(8, 0, 1));
        c.refused("row(-1, 9, -1)", -1, () -> c.x.row(-1, 9, -1));
        c.refused("row(0, 9, -1)", -4, () -> c.x.row(0, 9, -1));
        c.refused("row(0, 0, MIN)", -4, () -> c.x.row(0, 0, Integer.MIN_VALUE));
        c.refused("row(0, 4, 97)", -6, () -> c.x.row(0, 4, 97));
        c.refused("row(0, -1, 1)", -6, () -> c.x.row(0, -1, 1));
        c.refused("row(0, 3, 97)", -7, () -> c.x.row(0, 3, 97));
        c.refused("row(0, 3, MAX)", -7, () -> c.x.row(0, 3, Integer.MAX_VALUE));
    }

    private static void promise10() {
        City c = fresh();
        long v = 0x123456789ABCDEF0L;
        long[] low = {(byte) v, (short) v, (int) v, v};
        for (int sort = 0; sort < 4; sort++) {
            int s = sort;
            c.x.row(s, sort, 3);
            c.due("set", 1, () -> c.x.set(s, 2, v));
            c.due("element", low[sort], () -> c.x.element(s, 2));
            c.due("its neighbour", 0, () -> c.x.element(s, 1));
            c.due("set(.., MAX)", 1, () -> c.x.set(s, 0, BIG));
            c.due("element", sort == 3 ? BIG : -1, () -> c.x.element(s, 0));
            c.refused("set beyond", -5, () -> c.x.set(s, 3, 1));
            c.refused("set below", -5, () -> c.x.set(s, -1, 1));
        }
        c.x.row(4, 0, 0);
        c.x.house(0, 0, 0, 0, 0);
        c.x.show(5, 0);
        c.refused("set in an empty row", -5, () -> c.x.set(4, 0, 1));
        c.refused("set in a HOUSE", -2, () -> c.x.set(5, 0, 1));
        c.refused("set in NOTHING", -3, () -> c.x.set(6, -1, 1));
        c.refused("set(8, ..)", -1, () -> c.x.set(8, 0, 1));
        c.refused("set(-1, ..)", -1, () -> c.x.set(-1, 0, 1));
    }

    private static void promise11() {
        City c = fresh();
        c.x.row(0, 2, 6);
        for (int i = 0; i < 6; i++) {
            c.x.set(0, i, i + 1);
        }
        c.x.row(1, 2, 3);
        c.due("copy(0, 1, 1, 0, 3)", 1, () -> c.x.copy(0, 1, 1, 0, 3));
        c.due("element(1, 0)", 2, () -> c.x.element(1, 0));
        c.due("element(1, 2)", 4, () -> c.x.element(1, 2));
        c.due("copy onto itself, later", 1, () -> c.x.copy(0, 0, 0, 2, 4));
        long[] later = {1, 2, 1, 2, 3, 4};
        for (int i = 0; i < 6; i++) {
            check.same("element(0, " + i + ")", c.x.element(0, i), later[i]);
        }
        c.due("copy onto itself, ahead", 1, () -> c.x.copy(0, 0, 2, 1, 4));
        long[] ahead = {1, 1, 2, 3, 4, 4};
        for (int i = 0; i < 6; i++) {
            check.same("element(0, " + i + ")", c.x.element(0, i), ahead[i]);
        }
        c.due("none of them, at both ends", 1, () -> c.x.copy(0, 1, 6, 3, 0));
        c.refused("copy: i", -5, () -> c.x.copy(0, 1, -1, 0, 1));
        c.refused("copy: j", -5, () -> c.x.copy(0, 1, 0, -1, 1));
        c.refused("copy: end of p", -5, () -> c.x.copy(0, 1, 5, 0, 2));
        c.refused("copy: end of q", -5, () -> c.x.copy(0, 1, 0, 2, 2));
        c.refused("copy none beyond p", -5, () -> c.x.copy(0, 1, 7, 0, 0));
        c.refused("copy none beyond q", -5, () -> c.x.copy(0, 1, 0, 4, 0));
        c.refused("copy: sums beyond ints", -5, () -> c.x.copy(0, 1, 2, 2, Integer.MAX_VALUE));
        c.refused("copy: starts beyond ints", -5, () -> c.x.copy(0, 1, Integer.MAX_VALUE, Integer.MAX_VALUE, 1));
        c.refused("copy: n", -4, () -> c.x.copy(0, 1, -1, -1, -1));
        c.x.row(2, 3, 3);
        c.x.house(0, 0, 0, 0, 0);
        c.x.show(3, 0);
        c.refused("copy of two SORTS", -2, () -> c.x.copy(0, 2, 0, 0, -1));
        c.refused("copy from a HOUSE", -2, () -> c.x.copy(3, 0, 0, 0, 1));
        c.refused("copy to a HOUSE", -2, () -> c.x.copy(0, 3, 0, 0, 1));
        c.refused("copy from NOTHING to a HOUSE", -2, () -> c.x.copy(4, 3, 0, 0, 1));
        c.refused("copy from a HOUSE to NOTHING", -2, () -> c.x.copy(3, 4, 0, 0, 1));
        c.refused("copy from NOTHING", -3, () -> c.x.copy(4, 0, 0, 0, -1));
        c.refused("copy to NOTHING", -3, () -> c.x.copy(0, 4, 0, 0, -1));
        c.refused("copy from no SHELF to a HOUSE", -1, () -> c.x.copy(8, 3, 0, 0, 1));
        c.refused("copy from a HOUSE to no SHELF", -1, () -> c.x.copy(3, 8, 0, 0, 1));
        c.refused("copy from NOTHING to no SHELF", -1, () -> c.x.copy(4, -1, 0, 0, 1));
    }

    private static void promise12() {
        City c = fresh();
        c.x.row(0, 3, 96);
        c.x.set(0, 95, Long.MIN_VALUE);
        c.x.house(0, 0, 0, 0, 0);
        c.x.show(1, 0);
        c.due("element(0, 95)", Long.MIN_VALUE, () -> c.x.element(0, 95));
        c.due("element(0, 96)", 0, () -> c.x.element(0, 96));
        c.due("element(0, -1)", 0, () -> c.x.element(0, -1));
        c.due("element of a HOUSE", 0, () -> c.x.element(1, 0));
        c.due("element of NOTHING", 0, () -> c.x.element(2, 0));
        c.due("element(8, 0)", 0, () -> c.x.element(8, 0));
        c.due("element(-1, 0)", 0, () -> c.x.element(-1, 0));
        c.x.row(0, 3, 5);
        c.x.set(0, 4, 6);
        c.x.row(0, 3, 2);
        c.due("element beyond a shorter row", 0, () -> c.x.element(0, 4));
        c.x.set(0, 1, 6);
        c.x.show(0, NONE);
        c.due("element of a row that was", 0, () -> c.x.element(0, 1));
    }

    private static void promise13() {
        City c = fresh();
        c.refused("show(0, 0)", -1, () -> c.x.show(0, 0));
        c.x.house(0, 0, 0, 0, 0);
        c.x.house(1, 1, 0, 0, 0);
        c.due("show(0, 1)", 1, () -> c.x.show(0, 1));
        c.due("holds(0)", 1, () -> c.x.holds(0));
        c.due("show(0, 0)", 1, () -> c.x.show(0, 0));
        c.due("holds(0)", 0, () -> c.x.holds(0));
        c.due("show(0, NONE)", 0, () -> c.x.show(0, NONE));
        c.due("holds(0)", NONE, () -> c.x.holds(0));
        c.x.row(2, 1, 4);
        c.due("show on a ROW", 1, () -> c.x.show(2, 1));
        c.due("holds(2)", 1, () -> c.x.holds(2));
        c.refused("show(8, 0)", -1, () -> c.x.show(8, 0));
        c.refused("show(-1, NONE)", -1, () -> c.x.show(-1, NONE));
        c.refused("show(0, 2)", -1, () -> c.x.show(0, 2));
        c.refused("show(0, -2)", -1, () -> c.x.show(0, -2));
    }

    private static void promise14() {
        City c = fresh();
        for (int sort = 0; sort < 4; sort++) {
            int s = sort;
            c.x.row(s, sort, 0);
            c.due("holds of a ROW", 100 + sort, () -> c.x.holds(s));
        }
        for (int h = 0; h < 12; h++) {
            c.x.house(0, 0, 0, 0, 0);
        }
        c.x.show(7, 11);
        c.due("holds of a HOUSE", 11, () -> c.x.holds(7));
        c.due("holds of NOTHING", NONE, () -> c.x.holds(6));
        c.due("holds(8)", NONE, () -> c.x.holds(8));
        c.due("holds(-1)", NONE, () -> c.x.holds(-1));
    }

    private static void promise15() {
        City c = fresh();
        c.x.house(0, 0, 0, 0, 50);
        c.x.house(1, 0, 0, 0, 7);
        c.x.house(2, 0, 0, 0, 50);
        c.wallIn(0);
        c.x.level(0, 1);
        c.live(3);
        for (int h = 0; h < 3; h++) {
            c.x.show(h, h);
        }
        c.x.row(3, 0, 1);
        c.due("a HOUSE as a HOUSE", 3, () -> c.x.harm(0, 0));
        c.due("a SHOP as a HOUSE", 3, () -> c.x.harm(1, 0));
        c.due("a WELL as a HOUSE", 3, () -> c.x.harm(2, 0));
        c.due("a SHOP as a SHOP", 21, () -> c.x.harm(1, 1));
        c.due("a WELL as a WELL", 6, () -> c.x.harm(2, 2));
        c.refused("a HOUSE as a SHOP", -2, () -> c.x.harm(0, 1));
        c.refused("a HOUSE as a WELL", -2, () -> c.x.harm(0, 2));
        c.refused("a SHOP as a WELL", -2, () -> c.x.harm(1, 2));
        c.refused("a WELL as a SHOP", -2, () -> c.x.harm(2, 1));
        c.refused("a ROW", -2, () -> c.x.harm(3, 0));
        c.refused("NOTHING", -3, () -> c.x.harm(4, 1));
        c.refused("no SHELF", -1, () -> c.x.harm(8, 0));
        c.refused("no SHELF", -1, () -> c.x.harm(-1, 0));
        c.refused("no KIND of a ROW", -1, () -> c.x.harm(3, 3));
        c.refused("no KIND of NOTHING", -1, () -> c.x.harm(4, -1));
    }

    // ---- The sea and the rules

    private static void promise16() {
        City c = fresh();
        c.x.row(0, 2, 3);
        c.x.set(0, 0, 11);
        c.due("sea(0, false)", 3, () -> c.x.sea(0, false));
        c.x.set(0, 0, 22);
        c.due("sea(0, true)", 3, () -> c.x.sea(0, true));
        c.x.set(0, 0, 33);
        c.x.show(0, NONE);
        c.due("THE SEA as it was given", 11, () -> c.x.seaAt(0, false));
        c.due("THE FORECAST as it was given", 22, () -> c.x.seaAt(0, true));
        c.x.row(1, 0, 0);
        c.due("an empty one", 0, () -> c.x.sea(1, false));
        c.due("THE SEA without elements", 0, () -> c.x.seaAt(0, false));
        c.due("THE FORECAST stays", 22, () -> c.x.seaAt(3, true));
        c.x.house(0, 0, 0, 0, 0);
        c.x.show(2, 0);
        c.refused("sea of a HOUSE", -2, () -> c.x.sea(2, true));
        c.refused("sea of NOTHING", -3, () -> c.x.sea(0, true));
        c.refused("sea(8)", -1, () -> c.x.sea(8, true));
        c.refused("sea(-1)", -1, () -> c.x.sea(-1, false));
    }

    private static void promise17() {
        City c = fresh();
        long[] least = {Byte.MIN_VALUE, Short.MIN_VALUE, Integer.MIN_VALUE, Long.MIN_VALUE};
        long[] above = {-127, -300, -300, -300};
        for (int sort = 0; sort < 4; sort++) {
            c.x.row(0, sort, 2);
            c.x.set(0, 0, least[sort]);
            c.x.set(0, 1, least[sort] + 1);
            if (sort == 3) {
                c.x.set(0, 1, Integer.MIN_VALUE);
            }
            boolean forecast = sort % 2 == 0;
            check.same("sea", c.x.sea(0, forecast), 2);
            c.due("MISSING in SORT " + sort, 30, () -> c.x.seaAt(4, forecast));
            c.due("next above in SORT " + sort, above[sort], () -> c.x.seaAt(5, forecast));
        }
        c.x.row(0, 3, 7);
        long[] longs = {300, 301, -300, -301, (5L << 32) + 17, BIG, 0x7FFF_FFFFL};
        int[] due = {300, 300, -300, -300, 17, -1, 300};
        for (int i = 0; i < 7; i++) {
            c.x.set(0, i, longs[i]);
        }
        c.x.sea(0, false);
        for (int i = 0; i < 7; i++) {
            int q = i;
            c.due("seaAt(" + i + ")", due[i], () -> c.x.seaAt(q, false));
            c.due("seaAt(" + (i + 700) + ")", due[i], () -> c.x.seaAt(q + 700, false));
        }
        c.x.row(1, 1, 2);
        c.x.set(1, 0, -128);
        c.x.set(1, 1, -299);
        c.x.sea(1, true);
        c.due("not the least short", -128, () -> c.x.seaAt(0, true));
        c.due("seaAt(20001)", -299, () -> c.x.seaAt(20_001, true));
        c.due("seaAt(MAX)", -299, () -> c.x.seaAt(Integer.MAX_VALUE, true));
        c.due("seaAt(-1, true)", 1000, () -> c.x.seaAt(-1, true));
        c.due("seaAt(-1, false)", 1000, () -> c.x.seaAt(-1, false));
        c.due("seaAt(MIN)", 1000, () -> c.x.seaAt(Integer.MIN_VALUE, false));
    }

    private static void promise18() {
        City c = fresh();
        int[][] edges = {{0, 0, 99, 0}, {1, 1, 9, 9}, {2, 0, 9999, 0}};
        for (int[] edge : edges) {
            int what = edge[0];
            c.due("rule(" + what + ", most)", edge[3], () -> c.x.rule(what, edge[2]));
            c.due("rule(" + what + ", least)", edge[2], () -> c.x.rule(what, edge[1]));
            c.due("rule(" + what + ", least) again", edge[1], () -> c.x.rule(what, edge[1]));
            c.refused("rule(" + what + ") above", -6, () -> c.x.rule(what, edge[2] + 1));
            c.refused("rule(" + what + ") below", -6, () -> c.x.rule(what, edge[1] - 1));
            c.due("rule(" + what + ") as it was", edge[1], () -> c.x.rule(what, edge[1]));
        }
        c.refused("rule(3, 1)", -6, () -> c.x.rule(3, 1));
        c.refused("rule(-1, 1)", -6, () -> c.x.rule(-1, 1));
    }

    // ---- Laws (LawTests has what laws say and where their faults are)

    private static void promise19() {
        City c = fresh();
        c.letters(0, 0, "g2:f>10");
        for (int k = 0; k < 5; k++) {
            int number = k;
            c.due("law(0)", number, () -> c.x.law(0));
            c.due("LAWS", number + 1, () -> c.x.status(2));
            c.due("IN FORCE at first", number + 1, () -> c.x.status(3));
        }
        c.refused("a sixth law", -7, () -> c.x.law(0));
        c.letters(1, 0, "g2:f>10)");
        c.refused("a sixth law with a FAULT", -6, () -> c.x.law(1));
        c.x.house(0, 0, 0, 0, 0);
        c.x.show(2, 0);
        c.refused("law of a HOUSE", -2, () -> c.x.law(2));
        c.refused("law of NOTHING", -3, () -> c.x.law(3));
        c.refused("law(8)", -1, () -> c.x.law(8));
        c.refused("law(-1)", -1, () -> c.x.law(-1));
        City d = fresh();
        d.letters(0, 0, "g0:d=0");
        check.same("law(0)", d.x.law(0), 0);
        d.x.set(0, 5, '1');
        d.due("a law stays as it was read", 1, () -> d.x.says(0));
        for (int sort = 1; sort < 4; sort++) {
            d.letters(1, sort, "g0:d=0");
            check.same("law of SORT " + sort, d.x.law(1), sort);
        }
        d.x.set(1, 0, (7L << 32) + 'g');
        d.due("of longs the lowest 32 bits", 4, () -> d.x.law(1));
    }

    private static void promise20() {
        City c = fresh();
        c.due("none yet", NONE, () -> c.x.fault());
        c.letters(0, 0, "g1:f>1x");
        c.refused("law with a FAULT", -6, () -> c.x.law(0));
        c.due("fault()", 6, () -> c.x.fault());
        c.x.house(0, 0, 0, 0, 0);
        c.x.show(1, 0);
        c.refusedAlone("law of NOTHING", -3, () -> c.x.law(2));
        c.refusedAlone("law of a HOUSE", -2, () -> c.x.law(1));
        c.refusedAlone("law of no SHELF", -1, () -> c.x.law(8));
        c.due("fault() of the latest that came to a ROW", 6, () -> c.x.fault());
        c.x.set(0, 6, '2');
        c.due("law(0)", 0, () -> c.x.law(0));
        c.due("fault() of a LAW", NONE, () -> c.x.fault());
        for (int k = 1; k < 5; k++) {
            c.x.law(0);
        }
        c.letters(3, 0, "h");
        c.refusedAlone("law with a FAULT and no room", -6, () -> c.x.law(3));
        c.due("fault()", 0, () -> c.x.fault());
        c.refusedAlone("law without room", -7, () -> c.x.law(0));
        c.due("fault() of a LAW for which there is no room", NONE, () -> c.x.fault());
    }

    private static void promise21() {
        City c = fresh();
        c.refused("force(0)", -1, () -> c.x.force(0, true));
        c.law("g0:f=0");
        c.law("g0:f=0");
        c.due("force(1, true)", 0, () -> c.x.force(1, true));
        c.due("force(1, false)", 1, () -> c.x.force(1, false));
        c.due("force(1, false) again", 0, () -> c.x.force(1, false));
        c.due("IN FORCE", 1, () -> c.x.status(3));
        c.due("LAWS", 2, () -> c.x.status(2));
        c.due("force(1, true)", 1, () -> c.x.force(1, true));
        c.due("IN FORCE", 2, () -> c.x.status(3));
        c.refused("force(2)", -1, () -> c.x.force(2, false));
        c.refused("force(-1)", -1, () -> c.x.force(-1, false));
    }

    private static void promise22() {
        City c = fresh();
        c.due("says(0)", NONE, () -> c.x.says(0));
        check.same("law", c.law("g0:h=1"), 0);
        check.same("law", c.law("g0:h=0"), 1);
        c.x.force(1, false);
        c.due("says(0)", 0, () -> c.x.says(0));
        c.due("says(1), IN FORCE or not", 1, () -> c.x.says(1));
        c.live(4);
        c.due("says(0) later", 1, () -> c.x.says(0));
        c.due("says(1) later", 0, () -> c.x.says(1));
        c.due("says(2)", NONE, () -> c.x.says(2));
        c.due("says(-1)", NONE, () -> c.x.says(-1));
    }

    private static void promise33() {
        // a mouth at a house: without a law the sea comes in; 10 a quarter
        City c = fresh();
        c.wallInAll();
        c.x.mouth(0);
        c.x.mouth(24);
        c.x.house(0, 0, 5, 0, 0);
        c.x.house(2, 24, 5, 0, 0);
        c.bothHeights(100);
        c.due("best without LAWS", 0, () -> c.x.best(3, 0));
        c.due("its sum", 60, () -> c.x.best(3, 1));
        c.law("g1:f>50");
        c.due("best(3, 0)", 1, () -> c.x.best(3, 0));
        c.due("best(3, 1)", 30, () -> c.x.best(3, 1));
        c.law("g0:f>200");
        c.due("of several the least set", 1, () -> c.x.best(3, 0));
        c.law("g0:f>99");
        c.x.force(0, false);
        c.x.force(2, false);
        List<Long> before = c.all();
        c.due("laws that are not IN FORCE count too", 5, () -> c.x.best(48, 0));
        c.due("its sum", 0, () -> c.x.best(48, 1));
        c.due("best(1, 1)", 0, () -> c.x.best(1, 1));
        check.isTrue("best changes nothing", before.equals(c.all()));
        c.refused("best(0, 0)", -6, () -> c.x.best(0, 0));
        c.refused("best(49, 0)", -6, () -> c.x.best(49, 0));
        c.refused("best(1, 2)", -6, () -> c.x.best(1, 2));
        c.refused("best(1, -1)", -6, () -> c.x.best(1, -1));
        bestCountsWaiting();
        bestTakesTheForecast();
    }

    private static void bestCountsWaiting() {
        // the boat needs the tide to leave; the house wants it out: 3 for waiting against 30 for wet
        City c = fresh();
        c.wallInAll();
        c.x.close(0, 1, false);
        c.x.mouth(0);
        c.bothHeights(40);
        c.law("g0:f>30");
        c.x.boat(0, 26, 1, 1, 0);
        c.x.goal(0, 1);
        c.due("best for the boat alone", 0, () -> c.x.best(3, 0));
        c.due("the boat waits once without laws", 1, () -> c.x.best(3, 1));
        c.x.house(0, 0, 8, 0, 0);
        c.due("best with a house", 1, () -> c.x.best(3, 0));
        c.due("the boat waits", 3, () -> c.x.best(3, 1));
        c.live(5);
        c.due("what waited before does not count", 3, () -> c.x.best(3, 1));
    }

    private static void bestTakesTheForecast() {
        City c = fresh();
        c.wallInAll();
        c.x.mouth(0);
        c.heights(false, 0);
        c.heights(true, 100);
        c.x.house(0, 0, 5, 0, 0);
        c.law("g0:s>50");
        c.due("best by THE FORECAST", 1, () -> c.x.best(2, 0));
        c.x.gate(0, true);
        c.due("a gate that no LAW rules stays as it is", 0, () -> c.x.best(2, 0));
        c.due("its sum", 0, () -> c.x.best(2, 1));
    }

    // ---- Houses

    private static void promise23() {
        City c = fresh();
        c.due("house(0, 0, 0, 0, 0)", 0, () -> c.x.house(0, 0, 0, 0, 0));
        c.due("house(1, 24, 200, 99, 99)", 1, () -> c.x.house(1, 24, 200, 99, 99));
        c.due("house(2, 24, 7, 8, 9)", 2, () -> c.x.house(2, 24, 7, 8, 9));
        c.due("HOUSES", 3, () -> c.x.status(4));
        int[] due = {1, 24, 200, 0, 0, 0, 0, 0};
        for (int what = 0; what < 8; what++) {
            int w = what;
            c.due("about(1, " + what + ")", due[what], () -> c.x.about(1, w));
        }
        c.refused("house of no KIND", -1, () -> c.x.house(3, 0, 201, 0, 0));
        c.refused("house of no KIND", -1, () -> c.x.house(-1, 0, 0, 0, 0));
        c.refused("house in no CELL", -1, () -> c.x.house(0, 25, 0, 0, 0));
        c.refused("house in no CELL", -1, () -> c.x.house(0, -1, 0, 0, 100));
        c.refused("house: FLOOR", -6, () -> c.x.house(0, 0, 201, 0, 0));
        c.refused("house: FLOOR", -6, () -> c.x.house(0, 0, -1, 0, 0));
        c.refused("house: SINK", -6, () -> c.x.house(0, 0, 0, 100, 0));
        c.refused("house: SINK", -6, () -> c.x.house(0, 0, 0, -1, 0));
        c.refused("house: GOODS", -6, () -> c.x.house(0, 0, 0, 0, 100));
        c.refused("house: GOODS", -6, () -> c.x.house(1, 0, 0, 0, -1));
        for (int h = 3; h < 12; h++) {
            int number = h;
            c.due("house " + h, number, () -> c.x.house(0, 0, 0, 0, 0));
        }
        c.refused("a 13th house", -7, () -> c.x.house(0, 0, 0, 0, 0));
        c.refused("a wrong 13th house", -6, () -> c.x.house(0, 0, 0, 0, 100));
        c.refused("a 13th house in no CELL", -1, () -> c.x.house(0, 25, 0, 0, 100));
    }

    private static void promise24() {
        City c = fresh();
        c.refused("raise(0, 1)", -1, () -> c.x.raise(0, 1));
        c.x.house(0, 0, 199, 0, 0);
        c.due("raise(0, 1)", 200, () -> c.x.raise(0, 1));
        c.due("raise(0, 50)", 250, () -> c.x.raise(0, 50));
        c.due("raise(0, 49)", 299, () -> c.x.raise(0, 49));
        c.due("raise(0, 50) up to 300", 300, () -> c.x.raise(0, 50));
        c.due("raise(0, 1) at 300", 300, () -> c.x.raise(0, 1));
        c.due("about(0, 2)", 300, () -> c.x.about(0, 2));
        c.refused("raise(0, 0)", -6, () -> c.x.raise(0, 0));
        c.refused("raise(0, 51)", -6, () -> c.x.raise(0, 51));
        c.refused("raise(0, MAX)", -6, () -> c.x.raise(0, Integer.MAX_VALUE));
        c.refused("raise(0, -1)", -6, () -> c.x.raise(0, -1));
        c.refused("raise(1, 0)", -1, () -> c.x.raise(1, 0));
        c.refused("raise(-1, 1)", -1, () -> c.x.raise(-1, 1));
    }

    private static void promise25() {
        City c = fresh();
        c.x.house(2, 6, 9, 1, 4);
        c.wallIn(6);
        c.x.level(6, 10);
        c.live(2);
        c.x.level(6, 9);
        int[] wet = {2, 6, 9, 0, 2, 0, 4, 1};
        for (int what = 0; what < 8; what++) {
            int w = what;
            c.due("about(0, " + what + ")", wet[what], () -> c.x.about(0, w));
        }
        c.live(1);
        int[] dry = {2, 6, 9, 0, 2, 0, 3, 0};
        for (int what = 0; what < 8; what++) {
            int w = what;
            c.due("about(0, " + what + ")", dry[what], () -> c.x.about(0, w));
        }
        c.due("about(0, 8)", NONE, () -> c.x.about(0, 8));
        c.due("about(0, -1)", NONE, () -> c.x.about(0, -1));
        c.due("about(1, 0)", NONE, () -> c.x.about(1, 0));
        c.due("about(-1, 0)", NONE, () -> c.x.about(-1, 0));
        c.due("about(12, 0)", NONE, () -> c.x.about(12, 0));
    }

    // ---- Boats

    private static void promise26() {
        City c = fresh();
        c.due("boat(0, 1, 1, 1, 0)", 0, () -> c.x.boat(0, 1, 1, 1, 0));
        c.due("boat(24, 60, 99, 9, 9)", 1, () -> c.x.boat(24, 60, 99, 9, 9));
        c.due("BOATS", 2, () -> c.x.status(5));
        int[] due = {24, NONE, 0, 0, 0, 0};
        for (int what = 0; what < 6; what++) {
            int w = what;
            c.due("sails(1, " + what + ")", due[what], () -> c.x.sails(1, w));
        }
        c.refused("boat in no CELL", -1, () -> c.x.boat(25, 0, 1, 1, 0));
        c.refused("boat in no CELL", -1, () -> c.x.boat(-1, 1, 1, 1, 0));
        c.refused("boat: DRAUGHT", -6, () -> c.x.boat(0, 0, 1, 1, 0));
        c.refused("boat: DRAUGHT", -6, () -> c.x.boat(0, 61, 1, 1, 0));
        c.refused("boat: HEIGHT", -6, () -> c.x.boat(0, 1, 0, 1, 0));
        c.refused("boat: HEIGHT", -6, () -> c.x.boat(0, 1, 100, 1, 0));
        c.refused("boat: SPEED", -6, () -> c.x.boat(0, 1, 1, 0, 0));
        c.refused("boat: SPEED", -6, () -> c.x.boat(0, 1, 1, 10, 0));
        c.refused("boat: RANK", -6, () -> c.x.boat(0, 1, 1, 1, -1));
        c.refused("boat: RANK", -6, () -> c.x.boat(0, 1, 1, 1, 10));
        for (int b = 2; b < 6; b++) {
            int number = b;
            c.due("boat " + b, number, () -> c.x.boat(0, 1, 1, 1, 0));
        }
        c.refused("a 7th boat", -7, () -> c.x.boat(0, 1, 1, 1, 0));
        c.refused("a wrong 7th boat", -6, () -> c.x.boat(0, 1, 1, 1, 10));
        c.refused("a 7th boat in no CELL", -1, () -> c.x.boat(25, 1, 1, 1, 10));
    }

    private static void promise27() {
        City c = fresh();
        c.refused("goal(0, 1)", -1, () -> c.x.goal(0, 1));
        c.x.boat(3, 1, 1, 1, 0);
        c.due("goal(0, 24)", NONE, () -> c.x.goal(0, 24));
        c.due("with a GOAL", 1, () -> c.x.status(6));
        c.due("goal(0, 0)", 24, () -> c.x.goal(0, 0));
        c.due("goal(0, its own)", 0, () -> c.x.goal(0, 3));
        c.due("none with a GOAL", 0, () -> c.x.status(6));
        c.due("sails(0, 1)", NONE, () -> c.x.sails(0, 1));
        c.due("it ARRIVED nowhere", 0, () -> c.x.sails(0, 3));
        c.due("goal(0, 5)", NONE, () -> c.x.goal(0, 5));
        c.due("goal(0, NONE)", 5, () -> c.x.goal(0, NONE));
        c.due("sails(0, 1)", NONE, () -> c.x.sails(0, 1));
        c.x.goal(0, 7);
        c.refused("goal(0, 25)", -1, () -> c.x.goal(0, 25));
        c.refused("goal(0, -2)", -1, () -> c.x.goal(0, -2));
        c.refused("goal(1, 0)", -1, () -> c.x.goal(1, 0));
        c.refused("goal(-1, NONE)", -1, () -> c.x.goal(-1, NONE));
        c.due("sails(0, 1)", 7, () -> c.x.sails(0, 1));
    }

    private static void promise28() {
        City c = fresh();
        c.due("stepOf of no BOAT", NONE, () -> c.x.stepOf(0));
        c.x.boat(12, 20, 10, 1, 0);
        c.due("stepOf without a GOAL", NONE, () -> c.x.stepOf(0));
        int[][] steps = {{0, 7}, {4, 7}, {2, 7}, {24, 13}, {20, 11}, {22, 17}, {14, 13}, {10, 11}, {18, 13}, {16, 11}};
        for (int[] step : steps) {
            c.x.goal(0, step[0]);
            c.due("step from 12 to " + step[0], step[1], () -> c.x.stepOf(0));
        }
        c.x.goal(0, 2);
        c.x.close(12, 7, true);
        c.due("round a closed way", 11, () -> c.x.stepOf(0));
        c.x.depth(11, 19);
        c.due("round a shallow cell", 13, () -> c.x.stepOf(0));
        c.x.level(11, 1);
        c.due("LEVEL and DEPTH carry together", 11, () -> c.x.stepOf(0));
        c.x.bridge(11, 12, 10);
        c.due("1 too high for the bridge", 13, () -> c.x.stepOf(0));
        c.x.bridge(11, 12, 11);
        c.due("just under the bridge", 11, () -> c.x.stepOf(0));
        c.x.level(12, 2);
        c.due("the greater LEVEL of both counts", 13, () -> c.x.stepOf(0));
        c.x.level(12, -1);
        c.due("too shallow where it is", NONE, () -> c.x.stepOf(0));
        c.x.depth(12, 21);
        c.due("deep enough where it is", 11, () -> c.x.stepOf(0));
        c.x.depth(2, 19);
        c.due("too shallow at the goal", NONE, () -> c.x.stepOf(0));
        c.x.level(2, 1);
        c.due("deep enough at the goal", 11, () -> c.x.stepOf(0));
        c.x.narrow(11, 12, true);
        c.due("a narrow way is a way", 11, () -> c.x.stepOf(0));
        c.wallIn(2);
        c.due("no way", NONE, () -> c.x.stepOf(0));
        c.due("stepOf(1)", NONE, () -> c.x.stepOf(1));
        c.due("stepOf(-1)", NONE, () -> c.x.stepOf(-1));
        longestStep();
    }

    /** A way through all cells to and fro: 24 ways. */
    private static void longestStep() {
        City c = fresh();
        for (int row = 0; row < 4; row++) {
            for (int col = 0; col < 5; col++) {
                boolean open = col == (row % 2 == 0 ? 4 : 0);
                c.x.close(row * 5 + col, row * 5 + col + 5, !open);
            }
        }
        c.x.boat(0, 20, 1, 1, 0);
        c.x.goal(0, 24);
        c.due("the longest way", 1, () -> c.x.stepOf(0));
        c.due("its route", 24, () -> c.x.route(0, 24, 24));
        c.due("not within 23", NONE, () -> c.x.route(0, 24, 23));
        c.live(23);
        c.due("not there yet", 0, () -> c.x.sails(0, 3));
        c.live(1);
        c.due("there", 1, () -> c.x.sails(0, 3));
        c.due("24 ways", 24, () -> c.x.sails(0, 5));
    }

    private static void promise29() {
        City c = fresh();
        c.x.boat(0, 25, 99, 1, 0);
        c.due("route to where it is", 0, () -> c.x.route(0, 0, 96));
        c.due("route on too little water", NONE, () -> c.x.route(0, 4, 96));
        routeOfNobody(c);
        c.refused("route within 0", -6, () -> c.x.route(0, 4, 0));
        c.refused("route within 97", -6, () -> c.x.route(0, 0, 97));
        for (int a = 0; a < 25; a++) {
            c.x.depth(a, 25);
        }
        c.due("straight on", 4, () -> c.x.route(0, 4, 96));
        c.due("straight on within 4", 4, () -> c.x.route(0, 4, 4));
        c.due("not within 3", NONE, () -> c.x.route(0, 4, 3));
        c.due("across", 8, () -> c.x.route(0, 24, 96));
        c.x.narrow(0, 1, true);
        c.x.boat(0, 1, 1, 1, 9);
        c.x.goal(1, 1);
        c.due("as if it alone went", 1, () -> c.x.route(0, 1, 1));
        c.x.goal(0, 20);
        List<Long> before = c.all();
        c.due("its own GOAL does not bind it", 1, () -> c.x.route(0, 1, 9));
        check.isTrue("route changes nothing", before.equals(c.all()));
        routeWaitsForTheTide();
        routeUsesLevelsOfItsQuarter();
        routeOverADay();
    }

    /** NONE is an answer there: nobody is refused, not even where n is wrong, too. */
    private static void routeOfNobody(City c) {
        City bare = fresh();
        bare.due("route of no BOAT in a new city", NONE, () -> bare.x.route(0, 0, 0));
        bare.due("route of no BOAT in a new city", NONE, () -> bare.x.route(0, 0, 1));
        for (int nobody : new int[] {Integer.MIN_VALUE, -2, -1, 1, 5, 6, Integer.MAX_VALUE}) {
            c.due("route of no BOAT", NONE, () -> c.x.route(nobody, 0, 1));
            c.due("route of no BOAT within 0", NONE, () -> c.x.route(nobody, 4, 0));
            c.due("route of no BOAT within 97", NONE, () -> c.x.route(nobody, 4, 97));
            c.due("route of no BOAT to no CELL", NONE, () -> c.x.route(nobody, 25, 97));
        }
        for (int nowhere : new int[] {Integer.MIN_VALUE, -2, -1, 25, 26, Integer.MAX_VALUE}) {
            c.due("route to no CELL", NONE, () -> c.x.route(0, nowhere, 1));
            c.due("route to no CELL within 0", NONE, () -> c.x.route(0, nowhere, 0));
            c.due("route to no CELL within 97", NONE, () -> c.x.route(0, nowhere, 97));
        }
    }

    private static void routeWaitsForTheTide() {
        // the mouth in 0 lets 60 in quarter 4 on: half of it comes, so 0 has 30 and 1 has 7 behind flow
        City c = fresh();
        c.wallInAll();
        c.x.close(0, 1, false);
        c.x.mouth(0);
        c.heights(true, 0, 0, 0, 0, 60, 60, 60, 60);
        c.x.boat(1, 22, 1, 1, 0);
        c.due("route waits until quarter 4 was lived", 5, () -> c.x.route(0, 0, 96));
        c.due("route within 4", NONE, () -> c.x.route(0, 0, 4));
        c.due("route within 5", 5, () -> c.x.route(0, 0, 5));
        c.live(3);
        c.due("route from 3 on", 2, () -> c.x.route(0, 0, 5));
    }

    private static void routeUsesLevelsOfItsQuarter() {
        // level 4 in cell 0 sinks to 3 by flow in the first quarter already
        City c = fresh();
        c.wallInAll();
        c.x.close(0, 1, false);
        c.x.close(1, 2, false);
        c.x.level(0, 4);
        c.x.boat(0, 24, 1, 1, 0);
        c.x.depth(1, 24);
        c.x.goal(0, 1);
        c.due("as things are there is a way", 1, () -> c.x.stepOf(0));
        c.due("behind the flow there is none", NONE, () -> c.x.route(0, 1, 1));
        c.x.close(0, 1, true);
        c.x.close(0, 5, false);
        c.x.close(0, 5, true);
        c.due("closed", NONE, () -> c.x.route(0, 1, 9));
    }

    private static void routeOverADay() {
        // with CALM mud takes DEPTH at the end of a day, so the last chance is the day's last quarter
        City c = fresh();
        c.x.rule(2, 9);
        c.x.boat(0, 20, 1, 1, 0);
        c.live(92);
        c.due("the last quarter of the day", 4, () -> c.x.route(0, 4, 96));
        c.due("a way longer than the day", NONE, () -> c.x.route(0, 9, 96));
        c.x.rule(2, 0);
        c.due("without mud", 5, () -> c.x.route(0, 9, 96));
    }

    private static void promise30() {
        City c = fresh();
        c.x.boat(0, 20, 10, 4, 0);
        c.x.goal(0, 2);
        c.live(1);
        int[] due = {1, 2, 0, 0, 4, 1};
        for (int what = 0; what < 6; what++) {
            int w = what;
            c.due("sails(0, " + what + ")", due[what], () -> c.x.sails(0, w));
        }
        c.x.close(1, 2, true);
        c.x.depth(6, 0);
        c.x.depth(0, 0);
        c.live(2);
        c.x.close(1, 2, false);
        c.live(3);
        int[] then = {2, NONE, 2, 1, 8, 2};
        for (int what = 0; what < 6; what++) {
            int w = what;
            c.due("sails(0, " + what + ")", then[what], () -> c.x.sails(0, w));
        }
        c.due("sails(0, 6)", NONE, () -> c.x.sails(0, 6));
        c.due("sails(0, -1)", NONE, () -> c.x.sails(0, -1));
        c.due("sails(1, 0)", NONE, () -> c.x.sails(1, 0));
        c.due("sails(-1, 0)", NONE, () -> c.x.sails(-1, 0));
        c.due("sails(6, 0)", NONE, () -> c.x.sails(6, 0));
    }

    // ---- A quarter is lived

    private static void promise31Mouths() {
        City c = fresh();
        c.wallInAll();
        c.x.mouth(0);
        c.x.mouth(24);
        c.x.mouth(12);
        c.x.gate(1, true);
        c.heights(false, 31, -5);
        c.heights(true, 300);
        c.x.level(12, 40);
        c.due("quarters(1)", 1, () -> c.x.quarters(1));
        c.due("half of 31", 15, () -> c.x.cell(0, 1));
        c.due("a SHUT gate", 0, () -> c.x.cell(24, 1));
        c.due("half of 31 less 40, cut towards 0", 36, () -> c.x.cell(12, 1));
        c.due("CAME", 40 + 15 - 4, () -> c.x.status(18));
        c.due("quarters(1)", 2, () -> c.x.quarters(1));
        c.due("half of -5 less 15", 5, () -> c.x.cell(0, 1));
        c.due("half of -5 less 36, cut towards 0", 16, () -> c.x.cell(12, 1));
        c.due("CAME", 21, () -> c.x.status(18));
        c.due("all LEVELS", 21, () -> c.x.status(10));
        c.due("nothing RAN", 0, () -> c.x.cell(0, 3));
        c.due("another round of THE SEA", 3, () -> c.x.quarters(1));
        c.due("half of 31 less 5", 18, () -> c.x.cell(0, 1));
    }

    private static void promise31Flow() {
        City c = fresh();
        c.x.level(12, 43);
        c.x.level(7, -3);
        c.x.close(12, 13, true);
        c.live(1);
        // from 12: 46/4 = 11 to 7, 10 to 11, 10 to 17; 7 gets (3/4) 0 from its others
        c.due("LEVEL of 12", 12, () -> c.x.cell(12, 1));
        c.due("LEVEL of 7", 8, () -> c.x.cell(7, 1));
        c.due("LEVEL of 11", 10, () -> c.x.cell(11, 1));
        c.due("LEVEL of 17", 10, () -> c.x.cell(17, 1));
        c.due("LEVEL of 13", 0, () -> c.x.cell(13, 1));
        c.due("RAN in 12", 31, () -> c.x.cell(12, 3));
        c.due("RAN in 7", 11, () -> c.x.cell(7, 3));
        c.due("RAN in 13", 0, () -> c.x.cell(13, 3));
        c.live(1);
        // 12-7: 1, 12-11: 0, 12-17: 0; 7-2, 7-6, 7-8: 2 each; 11-6, 11-10, 11-16: 2; 17-16, 17-18, 17-22: 2
        c.due("LEVEL of 12", 11, () -> c.x.cell(12, 1));
        c.due("LEVEL of 7", 8 + 1 - 6, () -> c.x.cell(7, 1));
        c.due("LEVEL of 6", 4, () -> c.x.cell(6, 1));
        c.due("LEVEL of 16", 4, () -> c.x.cell(16, 1));
        c.due("LEVEL of 18", 2, () -> c.x.cell(18, 1));
        c.due("RAN in 12", 32, () -> c.x.cell(12, 3));
        c.due("RAN in 7", 18, () -> c.x.cell(7, 3));
        c.due("RAN in 6", 4, () -> c.x.cell(6, 3));
        c.due("all LEVELS", 40, () -> c.x.status(10));
        City d = fresh();
        d.x.level(0, -300);
        d.live(1);
        d.due("water goes from the higher to the lower", -150, () -> d.x.cell(0, 1));
        d.due("so its neighbour has less", -75, () -> d.x.cell(5, 1));
        d.due("RAN is no less than 0", 150, () -> d.x.cell(0, 3));
    }

    private static void promise31Laws() {
        City c = fresh();
        c.wallInAll();
        c.x.mouth(0);
        c.x.mouth(1);
        c.x.gate(1, true);
        c.law("g0:h=0&l<1");
        c.law("g0:h=1");
        c.law("g2:h=0");
        c.heights(false, 100);
        c.live(1);
        c.due("SHUT by a LAW, SHUT by hand", 2, () -> c.x.status(1));
        c.x.level(20, 1);
        c.live(1);
        c.due("OPEN by all LAWS; no LAW for the other", 1, () -> c.x.status(1));
        c.due("so the sea came", 50, () -> c.x.cell(0, 1));
        c.live(3);
        c.due("SHUT by one of the LAWS", 2, () -> c.x.status(1));
        c.x.force(1, false);
        c.live(1);
        c.due("OPEN by the LAW that is left IN FORCE", 1, () -> c.x.status(1));
        c.x.force(0, false);
        c.x.gate(0, true);
        c.live(1);
        c.due("no LAW IN FORCE leaves it SHUT", 2, () -> c.x.status(1));
        c.x.gate(0, false);
        c.live(1);
        c.due("no LAW IN FORCE leaves it OPEN", 1, () -> c.x.status(1));
        c.due("a third MOUTH", 2, () -> c.x.mouth(2));
        c.live(96 - 8);
        c.due("its LAW does not hold in hour 23", 1, () -> c.x.status(1));
        c.live(1);
        c.due("its LAW holds in hour 0 of a new day", 2, () -> c.x.status(1));
    }

    private static void promise31Boats() {
        City c = fresh();
        c.x.boat(0, 20, 50, 9, 1);
        c.x.goal(0, 2);
        c.live(1);
        c.due("at 1", 1, () -> c.x.sails(0, 0));
        c.x.depth(2, 0);
        c.live(2);
        c.due("no STEP: it WAITED", 2, () -> c.x.sails(0, 2));
        c.due("at 1 still", 1, () -> c.x.sails(0, 0));
        c.x.goal(0, NONE);
        c.live(1);
        c.due("without a GOAL it does not wait", 2, () -> c.x.sails(0, 2));
        c.x.depth(2, 20);
        c.x.goal(0, 2);
        c.live(1);
        c.due("at 2", 2, () -> c.x.sails(0, 0));
        c.due("ARRIVED", 1, () -> c.x.sails(0, 3));
        c.due("no GOAL any more", NONE, () -> c.x.sails(0, 1));
        c.due("none with a GOAL", 0, () -> c.x.status(6));
        c.live(1);
        c.due("ARRIVED once", 1, () -> c.x.sails(0, 3));
        // levels behind flow count: 0 sinks from 8 to 4 in the flow
        City d = fresh();
        d.x.boat(0, 25, 50, 9, 1);
        d.x.level(0, 8);
        d.x.depth(1, 60);
        d.x.goal(0, 1);
        d.due("a STEP as levels are", 1, () -> d.x.stepOf(0));
        d.live(1);
        d.due("none behind the flow", 1, () -> d.x.sails(0, 2));
    }

    private static void promise31Ranks() {
        City c = fresh();
        c.x.narrow(0, 1, true);
        c.x.boat(0, 1, 1, 1, 3);
        c.x.boat(1, 1, 1, 1, 4);
        c.x.boat(0, 1, 1, 1, 4);
        c.x.goal(0, 1);
        c.x.goal(1, 0);
        c.x.goal(2, 1);
        c.live(1);
        c.due("boat 0 WAITED", 1, () -> c.x.sails(0, 2));
        c.due("boat 1 went", 0, () -> c.x.sails(1, 0));
        c.due("boat 2 WAITED", 1, () -> c.x.sails(2, 2));
        c.live(1);
        c.due("boat 0 WAITED again", 2, () -> c.x.sails(0, 2));
        c.due("boat 2 went", 1, () -> c.x.sails(2, 0));
        c.live(1);
        c.due("boat 0 went", 1, () -> c.x.sails(0, 0));
        c.x.narrow(0, 1, false);
        c.x.goal(0, 0);
        c.x.goal(1, 1);
        c.x.goal(2, 0);
        c.live(1);
        c.due("a wide way takes boat 0", 0, () -> c.x.sails(0, 0));
        c.due("a wide way takes boat 1", 1, () -> c.x.sails(1, 0));
        c.due("a wide way takes boat 2", 0, () -> c.x.sails(2, 0));
        // a boat that waits at a narrow way looks for no other one, and does not block it
        City d = fresh();
        d.x.narrow(0, 1, true);
        d.x.boat(0, 20, 1, 1, 9);
        d.x.boat(0, 20, 1, 1, 0);
        d.x.goal(0, 6);
        d.x.goal(1, 6);
        d.live(1);
        d.due("the second WAITED", 1, () -> d.x.sails(1, 2));
        d.due("where it was", 0, () -> d.x.sails(1, 0));
        d.live(2);
        d.due("the second ARRIVED", 1, () -> d.x.sails(1, 3));
        d.due("the second WAITED once", 1, () -> d.x.sails(1, 2));
        // what waited went over no way
        City e = fresh();
        e.x.narrow(1, 2, true);
        e.x.depth(3, 10);
        e.x.boat(1, 20, 1, 1, 9);
        e.x.boat(1, 5, 1, 1, 0);
        e.x.goal(0, 3);
        e.x.goal(1, 3);
        e.live(1);
        e.due("no STEP for the first", 1, () -> e.x.sails(0, 2));
        e.due("so the way is free for the second", 2, () -> e.x.sails(1, 0));
    }

    private static void promise31Wear() {
        int[] wear = {0, 0, 1, 2, 4, 6, 9, 12, 16, 20};
        for (int speed = 1; speed <= 9; speed++) {
            City c = fresh();
            int v = speed;
            c.x.boat(0, 1, 1, speed, 0);
            c.x.goal(0, 1);
            c.live(1);
            c.due("WORE at speed " + v, wear[v], () -> c.x.sails(0, 4));
            c.due("WALL it came to", 1000 - wear[v], () -> c.x.cell(1, 2));
            c.due("WALL it left", 1000, () -> c.x.cell(0, 2));
            c.x.rule(1, 4);
            c.x.goal(0, 0);
            c.live(1);
            c.due("within the LIMIT", wear[v] + wear[Math.min(4, v)], () -> c.x.sails(0, 4));
        }
        City d = fresh();
        d.x.boat(0, 1, 1, 9, 0);
        d.x.boat(1, 1, 1, 8, 0);
        for (int trip = 0; trip < 28; trip++) {
            d.x.goal(0, 1 - trip % 2);
            d.x.goal(1, trip % 2);
            d.live(1);
        }
        d.due("WALL of 0", 1000 - 14 * 36, () -> d.x.cell(0, 2));
        for (int trip = 0; trip < 28; trip++) {
            d.x.goal(0, 1 - trip % 2);
            d.x.goal(1, trip % 2);
            d.live(1);
        }
        d.due("WALL of 0 is worn away", 0, () -> d.x.cell(0, 2));
        d.due("WALL of 1 is worn away", 0, () -> d.x.cell(1, 2));
        // in the last trip but one each WALL had 28 left: the first takes 20, the second 8
        d.due("what both WORE", 2000, () -> d.x.sails(0, 4) + d.x.sails(1, 4));
        d.live(1);
        d.x.goal(0, 1);
        d.live(1);
        d.due("no WALL is left to wear", 2000, () -> d.x.sails(0, 4) + d.x.sails(1, 4));
    }

    private static void promise31Houses() {
        City c = fresh();
        c.wallInAll();
        c.x.house(0, 0, 10, 0, 50);
        c.x.house(1, 0, 11, 0, 50);
        c.x.house(2, 0, 10, 0, 50);
        c.x.house(1, 1, 0, 0, 9);
        c.x.level(0, 10);
        c.live(1);
        c.due("LEVEL at the FLOOR is not WET", 0, () -> c.x.about(0, 4));
        c.due("SALT is 0 at least", 0, () -> c.x.about(2, 6));
        c.x.level(0, 11);
        c.live(2);
        c.due("WET", 2, () -> c.x.about(0, 4));
        c.due("WET now", 1, () -> c.x.about(0, 7));
        c.due("a HOUSE has no LOSS", 0, () -> c.x.about(0, 5));
        c.due("the SHOP is not WET", 0, () -> c.x.about(1, 4));
        c.due("a WELL has no LOSS", 0, () -> c.x.about(2, 5));
        c.due("SALT", 4, () -> c.x.about(2, 6));
        c.x.level(0, 12);
        c.x.level(1, -1);
        c.live(1);
        c.due("the SHOP is WET", 1, () -> c.x.about(1, 4));
        c.due("LOSS", 50, () -> c.x.about(1, 5));
        c.due("a SHOP has no SALT", 0, () -> c.x.about(1, 6));
        c.due("SALT", 6, () -> c.x.about(2, 6));
        c.x.level(0, 0);
        c.live(4);
        c.due("SALT is less", 2, () -> c.x.about(2, 6));
        c.due("LOSS stays", 50, () -> c.x.about(1, 5));
        c.due("WET no more", 0, () -> c.x.about(0, 7));
        c.due("WET all in all", 3, () -> c.x.about(0, 4));
        c.live(5);
        c.due("SALT is 0 at least", 0, () -> c.x.about(2, 6));
        c.due("the other SHOP was never WET", 0, () -> c.x.about(3, 4));
    }

    private static void promise31TooLateInVain() {
        City c = fresh();
        c.wallInAll();
        c.x.house(0, 0, 10, 0, 0);
        c.x.level(0, 11);
        c.live(2);
        c.due("TOO LATE without any gate", 2, () -> c.x.status(8));
        c.due("not IN VAIN", 0, () -> c.x.status(9));
        c.x.mouth(24);
        c.live(1);
        c.due("TOO LATE with an OPEN gate", 3, () -> c.x.status(8));
        c.x.gate(0, true);
        c.heights(false, 12);
        c.live(1);
        c.due("not TOO LATE with a SHUT gate", 3, () -> c.x.status(8));
        c.due("not IN VAIN, as THE SEA was higher", 0, () -> c.x.status(9));
        c.heights(false, 11);
        c.live(1);
        c.due("IN VAIN, as THE SEA was no more", 1, () -> c.x.status(9));
        c.x.level(0, 10);
        c.x.gate(0, false);
        c.live(1);
        c.due("no HOUSE WET, no gate SHUT", 4, () -> c.x.status(8) + c.x.status(9));
        // the greatest LEVEL ahead of 2 counts, not that behind flow
        City d = fresh();
        d.x.mouth(0);
        d.x.mouth(1);
        d.x.gate(0, true);
        d.x.level(24, 40);
        d.heights(false, 40);
        d.live(1);
        d.due("IN VAIN by the LEVEL ahead", 1, () -> d.x.status(9));
        d.heights(false, 100);
        d.live(1);
        d.due("not by the LEVEL that came", 1, () -> d.x.status(9));
        // a gate that a LAW shuts in the quarter counts for it
        City e = fresh();
        e.x.mouth(0);
        e.x.house(0, 24, 0, 0, 0);
        e.x.level(24, 30);
        e.law("g0:h=0");
        e.live(4);
        e.due("SHUT by LAW: not TOO LATE", 0, () -> e.x.status(8));
        e.due("SHUT by LAW: IN VAIN", 4, () -> e.x.status(9));
        e.x.level(24, 30);
        e.live(1);
        e.due("OPEN by LAW: TOO LATE", 1, () -> e.x.status(8));
        e.due("OPEN by LAW: not IN VAIN", 4, () -> e.x.status(9));
    }

    private static void promise31Days() {
        City c = fresh();
        c.wallInAll();
        c.x.close(0, 1, false);
        c.x.level(0, 8);
        c.x.depth(5, 0);
        c.x.depth(6, 1);
        c.x.rule(2, 4);
        c.x.house(0, 2, 3, 1, 0);
        c.x.house(0, 2, 3, 2, 0);
        c.x.house(0, 2, 3, 0, 0);
        c.x.house(0, 2, 3, 99, 0);
        c.live(95);
        // 8|0 to 6|2 to 5|3: 2 and 1 ran in both
        c.due("RAN in 0", 3, () -> c.x.cell(0, 3));
        c.due("no mud ahead of the day's end", 20, () -> c.x.cell(0, 0));
        c.due("no HOUSE SANK ahead of it", 0, () -> c.x.about(0, 3));
        c.live(1);
        c.due("mud, as 3 is less than 4", 19, () -> c.x.cell(0, 0));
        c.due("DEPTH is 0 at least", 0, () -> c.x.cell(5, 0));
        c.due("DEPTH 1 becomes 0", 0, () -> c.x.cell(6, 0));
        c.due("RAN is 0 in a new day", 0, () -> c.x.cell(0, 3));
        c.due("SINK 1", 1, () -> c.x.about(0, 3));
        c.due("SINK 2", 0, () -> c.x.about(1, 3));
        c.due("SINK 0", 0, () -> c.x.about(2, 3));
        c.x.level(0, 8);
        c.x.level(1, 0);
        c.x.rule(2, 3);
        c.live(96);
        c.due("no mud, as 3 is not less than 3", 19, () -> c.x.cell(0, 0));
        c.due("mud where nothing ran", 18, () -> c.x.cell(2, 0));
        c.due("SINK 1 on DAY 2", 2, () -> c.x.about(0, 3));
        c.due("SINK 2 on DAY 2", 1, () -> c.x.about(1, 3));
        c.due("SINK 99 on DAY 2", 0, () -> c.x.about(3, 3));
        c.x.level(2, 2);
        c.x.rule(2, 0);
        c.live(1);
        c.due("WET by what it SANK", 1, () -> c.x.about(0, 7));
        c.due("not WET by what it SANK", 0, () -> c.x.about(1, 7));
        c.live(95);
        c.due("no mud with CALM 0", 18, () -> c.x.cell(2, 0));
        c.x.level(2, 0);
        c.live(96 * 99 - 96 * 3);
        c.due("SINK 99 on DAY 99", 1, () -> c.x.about(3, 3));
        c.due("SINK 1 on DAY 99", 99, () -> c.x.about(0, 3));
        c.due("SINK 2 on DAY 99", 49, () -> c.x.about(1, 3));
    }

    private static void promise31Refusals() {
        City c = fresh();
        c.refused("quarters(0)", -6, () -> c.x.quarters(0));
        c.refused("quarters(201)", -6, () -> c.x.quarters(201));
        c.refused("quarters(-1)", -6, () -> c.x.quarters(-1));
        c.due("quarters(200)", 200, () -> c.x.quarters(200));
        c.live(19_799);
        c.due("NOW", 19_999, () -> c.x.status(7));
        c.refused("beyond 20,000", -7, () -> c.x.quarters(2));
        c.refused("beyond 20,000", -7, () -> c.x.quarters(200));
        c.refused("quarters(201)", -6, () -> c.x.quarters(201));
        c.due("the last quarter", 20_000, () -> c.x.quarters(1));
        c.refused("beyond 20,000", -7, () -> c.x.quarters(1));
        c.due("what is foretold goes on", 0, () -> c.x.foretold(0, 200));
        c.due("DAY", 1, () -> c.law("g0:d=208") + c.x.says(0));
    }

    private static void promise32() {
        City c = fresh();
        c.x.mouth(0);
        c.heights(false, -200);
        c.heights(true, 80, 120, -60);
        c.law("g0:f>500");
        c.x.house(2, 0, 0, 0, 0);
        c.x.boat(24, 1, 1, 1, 0);
        c.x.goal(0, 20);
        List<Long> before = c.all();
        c.due("foretold(0, 0)", 0, () -> c.x.foretold(0, 0));
        // 40 come, 10 go to each neighbour
        c.due("foretold(0, 1)", 20, () -> c.x.foretold(0, 1));
        c.due("foretold(5, 1)", 10, () -> c.x.foretold(5, 1));
        // 50 come: 70, of which 15 go to each of two with 10
        c.due("foretold(0, 2)", 40, () -> c.x.foretold(0, 2));
        check.isTrue("foretold changes nothing", before.equals(c.all()));
        c.due("foretold(25, 1)", 1000, () -> c.x.foretold(25, 1));
        c.due("foretold(-1, 1)", 1000, () -> c.x.foretold(-1, 1));
        c.due("foretold(0, -1)", 1000, () -> c.x.foretold(0, -1));
        c.due("foretold(0, 201)", 1000, () -> c.x.foretold(0, 201));
        int far = c.x.foretold(7, 200);
        c.heights(false, 80, 120, -60);
        c.due("what was foretold comes", 200, () -> c.x.quarters(200));
        c.due("as it was foretold", far, () -> c.x.cell(7, 1));
        foretoldBoatsChangeLaws();
    }

    private static void foretoldBoatsChangeLaws() {
        // a boat arrives in the first quarter; then w is 0, and the law opens the gate
        City c = fresh();
        c.wallInAll();
        c.x.close(0, 1, false);
        c.x.mouth(24);
        c.heights(true, 100);
        c.law("g0:w>0");
        c.x.boat(0, 1, 1, 1, 0);
        c.x.goal(0, 1);
        c.due("foretold(24, 1)", 0, () -> c.x.foretold(24, 1));
        c.due("foretold(24, 2)", 50, () -> c.x.foretold(24, 2));
        c.due("the boat itself stays", 0, () -> c.x.sails(0, 0));
    }

    private static void promise35And36() {
        City c = fresh();
        c.refused("restore without an image", -6, () -> c.x.restore());
        buildAll(c);
        c.live(100);
        c.due("image()", 100, () -> c.x.image());
        List<Long> kept = c.all();
        changeAll(c);
        check.isTrue("all is changed", !kept.equals(c.all()));
        c.due("restore()", 100, () -> c.x.restore());
        check.isTrue("all is as it was", kept.equals(c.all()));
        c.due("MISS as it was", 3, () -> c.x.rule(0, 9));
        c.due("LIMIT as it was", 4, () -> c.x.rule(1, 9));
        c.due("CALM as it was", 5, () -> c.x.rule(2, 9));
        c.live(7);
        c.due("restore() again", 100, () -> c.x.restore());
        check.isTrue("all is as it was", kept.equals(c.all()));
        imageLeavesOut();
        restoreAndShelves();
        newOnesForget();
        fullCity();
        forceIsKept();
    }

    private static void buildAll(City c) {
        c.x.depth(3, 33);
        c.x.level(4, 44);
        c.x.close(0, 1, true);
        c.x.narrow(1, 2, true);
        c.x.bridge(2, 3, 50);
        c.x.mouth(0);
        c.x.mouth(20);
        c.x.gate(1, true);
        c.heights(false, 60, -20);
        c.heights(true, 70, -30, 5);
        c.x.rule(0, 3);
        c.x.rule(1, 4);
        c.x.rule(2, 5);
        c.law("g0:h>12&d=0");
        c.law("g1:s>900");
        c.x.force(1, false);
        c.x.house(0, 0, 1, 1, 0);
        c.x.house(1, 4, 0, 0, 9);
        c.x.house(2, 20, 0, 0, 0);
        c.x.boat(7, 5, 20, 9, 3);
        c.x.boat(8, 60, 20, 9, 3);
        c.x.goal(0, 24);
        c.x.goal(1, 0);
    }

    private static void changeAll(City c) {
        c.x.depth(3, 3);
        c.x.level(4, -44);
        c.x.close(0, 1, false);
        c.x.close(10, 11, true);
        c.x.narrow(1, 2, false);
        c.x.bridge(2, 3, NONE);
        c.x.mouth(12);
        c.x.gate(1, false);
        c.x.rule(0, 30);
        c.x.rule(1, 9);
        c.x.rule(2, 50);
        // shelf 0 instead of those that hold the texts, for shelves are no part of the image
        c.x.row(0, 2, 1);
        c.x.sea(0, false);
        c.x.sea(0, true);
        c.x.show(0, NONE);
        c.x.law(7);
        c.x.force(0, false);
        c.x.force(1, true);
        c.x.raise(0, 5);
        c.x.house(1, 1, 1, 1, 1);
        c.x.boat(1, 1, 1, 1, 1);
        c.x.goal(0, 12);
        c.x.goal(1, 7);
        c.live(150);
    }

    private static void imageLeavesOut() {
        City c = fresh();
        c.x.image();
        c.x.row(0, 1, 3);
        c.x.set(0, 1, 77);
        c.refusedAlone("a refusal", -6, () -> c.x.quarters(0));
        c.letters(1, 0, "gx");
        c.refusedAlone("a fault", -6, () -> c.x.law(1));
        c.x.restore();
        c.due("a ROW stays", 101, () -> c.x.holds(0));
        c.due("its elements stay", 77, () -> c.x.element(0, 1));
        c.due("REFUSALS stay", 2, () -> c.x.status(17 - 1));
        c.due("the FAULT stays", 1, () -> c.x.fault());
    }

    private static void restoreAndShelves() {
        City c = fresh();
        c.x.house(0, 0, 0, 0, 0);
        c.x.image();
        c.x.house(1, 1, 0, 0, 0);
        c.x.house(2, 2, 0, 0, 0);
        c.x.show(0, 0);
        c.x.show(1, 1);
        c.x.show(7, 2);
        c.x.row(2, 0, 2);
        c.due("restore()", 0, () -> c.x.restore());
        c.due("a HOUSE that there is", 0, () -> c.x.holds(0));
        c.due("a HOUSE that there is not", NONE, () -> c.x.holds(1));
        c.due("a HOUSE that there is not", NONE, () -> c.x.holds(7));
        c.due("a ROW", 100, () -> c.x.holds(2));
        c.due("a new HOUSE", 1, () -> c.x.house(2, 3, 4, 5, 6));
        c.due("the shelf stays empty", NONE, () -> c.x.holds(1));
        c.refused("harm of NOTHING", -3, () -> c.x.harm(1, 0));
        everyShelfLosesAHouse();
        everyShelfKeepsAHouse();
        // what a house was before the image took it back does not come again
        City d = fresh();
        d.x.image();
        d.x.house(2, 0, 0, 1, 9);
        d.x.boat(0, 60, 1, 9, 0);
        d.x.goal(0, 1);
        d.x.level(0, 300);
        d.live(1);
        d.x.restore();
        d.x.house(1, 1, 7, 0, 0);
        d.x.boat(2, 1, 1, 1, 1);
        int[] due = {1, 1, 7, 0, 0, 0, 0, 0};
        for (int what = 0; what < 8; what++) {
            int w = what;
            d.due("about a new HOUSE " + what, due[what], () -> d.x.about(0, w));
        }
        int[] boat = {2, NONE, 0, 0, 0, 0};
        for (int what = 0; what < 6; what++) {
            int w = what;
            d.due("a new BOAT " + what, boat[what], () -> d.x.sails(0, w));
        }
    }

    private static void everyShelfLosesAHouse() {
        City c = fresh();
        c.x.image();
        c.x.house(0, 0, 0, 0, 0);
        for (int s = 0; s < 8; s++) {
            c.x.show(s, 0);
        }
        c.x.restore();
        for (int s = 0; s < 8; s++) {
            int shelf = s;
            c.due("holds(" + s + ")", NONE, () -> c.x.holds(shelf));
        }
    }

    private static void everyShelfKeepsAHouse() {
        City c = fresh();
        c.x.house(0, 0, 0, 0, 0);
        c.x.house(0, 0, 0, 0, 0);
        c.x.image();
        for (int s = 0; s < 8; s++) {
            c.x.show(s, s % 2);
        }
        c.x.restore();
        for (int s = 0; s < 8; s++) {
            int shelf = s;
            c.due("holds(" + s + ")", s % 2, () -> c.x.holds(shelf));
        }
    }

    /** Houses and boats that come where the image took others back know nothing of those. */
    private static void newOnesForget() {
        City c = fresh();
        c.wallInAll();
        c.x.image();
        for (int kind = 0; kind < 3; kind++) {
            c.x.house(kind, 0, 5, 1, 9);
        }
        c.x.boat(0, 60, 1, 9, 0);
        c.x.goal(0, 1);
        c.x.level(0, 6);
        c.live(97);
        c.x.restore();
        for (int kind = 0; kind < 3; kind++) {
            int h = c.x.house(0, 1, 7, 0, 0);
            int[] due = {0, 1, 7, 0, 0, 0, 0, 0};
            for (int what = 0; what < 8; what++) {
                int w = what;
                c.due("about a new HOUSE " + what, due[what], () -> c.x.about(h, w));
            }
        }
        c.x.boat(2, 1, 1, 1, 1);
        int[] due = {2, NONE, 0, 0, 0, 0};
        for (int what = 0; what < 6; what++) {
            int w = what;
            c.due("a new BOAT " + what, due[what], () -> c.x.sails(0, w));
        }
    }

    /** As much as may be of all: 3 mouths, 5 laws, 12 houses, 6 boats, rows of 96. */
    private static void fullCity() {
        City c = fresh();
        int[] heights = new int[96];
        for (int i = 0; i < 96; i++) {
            heights[i] = i - 20;
        }
        c.heights(false, heights);
        c.due("THE FORECAST is that row too", 96, () -> c.x.sea(6, true));
        for (int m = 0; m < 3; m++) {
            c.x.mouth(10 * m + 4);
        }
        for (int k = 0; k < 5; k++) {
            c.law("g" + k % 3 + ":s>" + (20 + 9 * k));
        }
        for (int h = 0; h < 12; h++) {
            c.x.house(h % 3, 2 * h, 3 * h, h, 5);
        }
        for (int b = 0; b < 6; b++) {
            c.x.boat(b, 10, 10, 3 + b, b % 2);
            c.x.goal(b, 24 - b);
        }
        c.due("THE SEA in quarter 95", 75, () -> c.x.seaAt(95, false));
        c.due("THE SEA in quarter 96", -20, () -> c.x.seaAt(96, false));
        c.x.image();
        List<Long> first = c.all();
        int[] told = new int[25];
        for (int cell = 0; cell < 25; cell++) {
            told[cell] = c.x.foretold(cell, 150);
        }
        int least = c.x.best(48, 1);
        int set = c.x.best(48, 0);
        c.due("all that was asked changed nothing", 0, () -> c.x.status(7));
        c.live(150);
        for (int cell = 0; cell < 25; cell++) {
            check.same("as it was foretold", c.x.cell(cell, 1), told[cell]);
        }
        c.due("the last house counts", 1, () -> c.x.about(11, 0) - 1);
        c.due("the last boat went", 1, () -> c.x.sails(5, 3));
        c.x.restore();
        check.isTrue("all is as it was", first.equals(c.all()));
        for (int k = 0; k < 5; k++) {
            c.x.force(k, (set >> k & 1) == 1);
        }
        c.live(48);
        int sum = 0;
        for (int h = 0; h < 12; h++) {
            sum += 10 * c.x.about(h, 4);
        }
        for (int b = 0; b < 6; b++) {
            sum += c.x.sails(b, 2);
        }
        check.same("what best said comes", sum, least);
    }

    /** Which laws are in force is kept, and foretold, for each. */
    private static void forceIsKept() {
        City c = fresh();
        c.wallInAll();
        c.x.mouth(0);
        c.x.mouth(1);
        c.law("g0:d=0");
        c.law("g1:d=0");
        c.x.force(1, false);
        c.heights(true, 100);
        c.due("SHUT as foretold", 0, () -> c.x.foretold(0, 1));
        c.due("OPEN as foretold", 50, () -> c.x.foretold(1, 1));
        c.x.image();
        c.x.force(0, false);
        c.x.force(1, true);
        c.due("OPEN as foretold", 50, () -> c.x.foretold(0, 1));
        c.due("SHUT as foretold", 0, () -> c.x.foretold(1, 1));
        c.x.restore();
        c.due("law 0 is IN FORCE", 0, () -> c.x.force(0, true));
        c.due("law 1 is not", 0, () -> c.x.force(1, false));
        c.law("g2:d=0");
        c.due("a new law is IN FORCE", 0, () -> c.x.force(2, true));
    }

    // ---- What is

    private static void promise37() {
        City c = fresh();
        c.x.mouth(8);
        c.x.depth(8, 33);
        c.x.level(8, 40);
        c.x.boat(9, 1, 1, 9, 0);
        c.x.goal(0, 8);
        c.live(1);
        // 40 less half of it is 20, then 5 to each of four neighbours
        int[] due = {33, 0, 980, 20, 0};
        for (int what = 0; what < 5; what++) {
            int w = what;
            c.due("cell(8, " + what + ")", due[what], () -> c.x.cell(8, w));
        }
        c.due("cell(7, 4)", NONE, () -> c.x.cell(7, 4));
        c.due("cell(8, 5)", 1_000_000, () -> c.x.cell(8, 5));
        c.due("cell(8, -1)", 1_000_000, () -> c.x.cell(8, -1));
        c.due("cell(25, 0)", 1_000_000, () -> c.x.cell(25, 0));
        c.due("cell(-1, 0)", 1_000_000, () -> c.x.cell(-1, 0));
        c.due("cell(MIN, 0)", 1_000_000, () -> c.x.cell(Integer.MIN_VALUE, 0));
    }

    private static void promise38() {
        City c = fresh();
        c.x.close(11, 16, true);
        c.x.narrow(11, 12, true);
        c.x.bridge(11, 10, 44);
        int[][] due = {{16, 1, 0, NONE}, {12, 0, 1, NONE}, {10, 0, 0, 44}, {6, 0, 0, NONE}};
        for (int[] way : due) {
            for (int what = 0; what < 3; what++) {
                int w = what;
                c.due("way(11, " + way[0] + ", " + what + ")", way[what + 1], () -> c.x.way(11, way[0], w));
                c.due("way(" + way[0] + ", 11, " + what + ")", way[what + 1], () -> c.x.way(way[0], 11, w));
            }
        }
        c.due("way(11, 16, 3)", NONE, () -> c.x.way(11, 16, 3));
        c.due("way(11, 16, -1)", NONE, () -> c.x.way(11, 16, -1));
        c.due("way(11, 17, 0)", NONE, () -> c.x.way(11, 17, 0));
        c.due("way(4, 5, 0)", NONE, () -> c.x.way(4, 5, 0));
        c.due("way(11, 11, 0)", NONE, () -> c.x.way(11, 11, 0));
        c.due("way(20, 25, 0)", NONE, () -> c.x.way(20, 25, 0));
        c.due("way(-5, 0, 0)", NONE, () -> c.x.way(-5, 0, 0));
    }

    private static void promise39() {
        City c = fresh();
        c.x.mouth(0);
        c.x.mouth(1);
        c.x.gate(0, true);
        c.law("g2:l>5");
        c.law("g2:l>5");
        c.law("g2:l>5");
        c.x.force(1, false);
        for (int h = 0; h < 4; h++) {
            c.x.house(0, 24, 0, 0, 0);
        }
        for (int b = 0; b < 5; b++) {
            c.x.boat(24, 60, 1, 1, 0);
            c.x.goal(b, b == 3 ? NONE : 0);
        }
        c.x.level(12, -7);
        c.x.quarters(3);
        // 7 times -1 etc.: each refusal has a count of its own
        for (int k = 0; k < 7; k++) {
            c.refusedAlone("depth(25, 0)", -1, () -> c.x.depth(25, 0));
        }
        for (int k = 0; k < 6; k++) {
            c.refusedAlone("harm(7, 0)", -2, () -> c.x.harm(7, 0));
        }
        for (int k = 0; k < 5; k++) {
            c.refusedAlone("set(0, 0, 0)", -3, () -> c.x.set(0, 0, 0));
        }
        for (int k = 0; k < 4; k++) {
            c.refusedAlone("row(0, 0, -1)", -4, () -> c.x.row(0, 0, -1));
        }
        for (int k = 0; k < 3; k++) {
            c.refusedAlone("set(7, 99, 0)", -5, () -> c.x.set(7, 99, 0));
        }
        for (int k = 0; k < 2; k++) {
            c.refusedAlone("quarters(0)", -6, () -> c.x.quarters(0));
        }
        c.refusedAlone("row(0, 0, 97)", -7, () -> c.x.row(0, 0, 97));
        int[] due = {2, 1, 3, 2, 4, 5, 4, 3, 0, 3, -7, 7, 6, 5, 4, 3, 2, 1, -7};
        for (int what = 0; what < due.length; what++) {
            int w = what;
            c.due("status(" + what + ")", due[what], () -> c.x.status(w));
        }
        c.due("status(19)", -1_000_001, () -> c.x.status(19));
        c.due("status(-1)", -1_000_001, () -> c.x.status(-1));
        c.due("status(MAX)", -1_000_001, () -> c.x.status(Integer.MAX_VALUE));
        c.due("status(MIN)", -1_000_001, () -> c.x.status(Integer.MIN_VALUE));
    }
}
