import java.util.ArrayList;
import java.util.List;

/**
 * The document once more, in another form: laws are told from their texts each time, states are copied whole,
 * shortest ways are found by going through all ways again and again. RunTests compares WaterCity with it.
 */
final class CityModel {
    static final int NONE = -1;

    static final class Mouth {
        int cell;
        boolean shut;
    }

    static final class Law {
        String text;
        boolean force = true;
    }

    static final class House {
        int kind, cell, floor, sink, goods, sank, wets, loss, salt;
        boolean wet;
    }

    static final class Boat {
        int cell, draught, height, speed, rank, goal = NONE, waited, arrived, wore, went;
    }

    static final class Row {
        int sort;
        long[] v;
    }

    static final class State {
        int[] depth = new int[25], level = new int[25], wall = new int[25], ran = new int[25];
        boolean[][] closed = new boolean[25][25], narrow = new boolean[25][25];
        int[][] bridge = new int[25][25];
        List<Mouth> mouths = new ArrayList<>();
        List<Law> laws = new ArrayList<>();
        List<House> houses = new ArrayList<>();
        List<Boat> boats = new ArrayList<>();
        Row sea, forecast;
        int miss, limit = 9, calm, now, late, vain, came;

        State() {
            for (int c = 0; c < 25; c++) {
                depth[c] = 20;
                wall[c] = 1000;
                for (int d = 0; d < 25; d++) {
                    bridge[c][d] = NONE;
                }
            }
        }

        State twin() {
            State t = new State();
            t.depth = depth.clone();
            t.level = level.clone();
            t.wall = wall.clone();
            t.ran = ran.clone();
            for (int c = 0; c < 25; c++) {
                t.closed[c] = closed[c].clone();
                t.narrow[c] = narrow[c].clone();
                t.bridge[c] = bridge[c].clone();
            }
            for (Mouth m : mouths) {
                Mouth n = new Mouth();
                n.cell = m.cell;
                n.shut = m.shut;
                t.mouths.add(n);
            }
            for (Law a : laws) {
                Law b = new Law();
                b.text = a.text;
                b.force = a.force;
                t.laws.add(b);
            }
            for (House h : houses) {
                House g = new House();
                g.kind = h.kind;
                g.cell = h.cell;
                g.floor = h.floor;
                g.sink = h.sink;
                g.goods = h.goods;
                g.sank = h.sank;
                g.wets = h.wets;
                g.loss = h.loss;
                g.salt = h.salt;
                g.wet = h.wet;
                t.houses.add(g);
            }
            for (Boat b : boats) {
                Boat a = new Boat();
                a.cell = b.cell;
                a.draught = b.draught;
                a.height = b.height;
                a.speed = b.speed;
                a.rank = b.rank;
                a.goal = b.goal;
                a.waited = b.waited;
                a.arrived = b.arrived;
                a.wore = b.wore;
                a.went = b.went;
                t.boats.add(a);
            }
            t.sea = sea;
            t.forecast = forecast;
            t.miss = miss;
            t.limit = limit;
            t.calm = calm;
            t.now = now;
            t.late = late;
            t.vain = vain;
            t.came = came;
            return t;
        }
    }

    State s = new State();
    State kept = null;
    Object[] shelf = new Object[8];
    int[] refusals = new int[8];
    int fault = NONE;

    int no(int number) {
        refusals[-number]++;
        return number;
    }

    static boolean in(long n, long least, long most) {
        return least <= n && n <= most;
    }

    static boolean cellIs(int c) {
        return in(c, 0, 24);
    }

    static boolean beside(int a, int b) {
        return cellIs(a) && cellIs(b) && Math.abs(a / 5 - b / 5) + Math.abs(a % 5 - b % 5) == 1;
    }

    int depth(int c, int n) {
        if (!cellIs(c)) return no(-1);
        if (!in(n, 0, 60)) return no(-6);
        int was = s.depth[c];
        s.depth[c] = n;
        return was;
    }

    int level(int c, int n) {
        if (!cellIs(c)) return no(-1);
        if (!in(n, -300, 300)) return no(-6);
        int was = s.level[c];
        s.level[c] = n;
        s.came += n - was;
        return was;
    }

    private int flip(boolean[][] ways, int a, int b, boolean is) {
        if (!beside(a, b)) return no(-1);
        boolean was = ways[a][b];
        ways[a][b] = is;
        ways[b][a] = is;
        return was != is ? 1 : 0;
    }

    int close(int a, int b, boolean is) {
        return flip(s.closed, a, b, is);
    }

    int narrow(int a, int b, boolean is) {
        return flip(s.narrow, a, b, is);
    }

    int bridge(int a, int b, int height) {
        if (!beside(a, b)) return no(-1);
        if (height != NONE && !in(height, 0, 99)) return no(-6);
        int was = s.bridge[a][b];
        s.bridge[a][b] = height;
        s.bridge[b][a] = height;
        return was;
    }

    int mouthAt(int c) {
        for (int m = 0; m < s.mouths.size(); m++) {
            if (s.mouths.get(m).cell == c) return m;
        }
        return NONE;
    }

    int mouth(int c) {
        if (!cellIs(c)) return no(-1);
        if (mouthAt(c) != NONE) return no(-6);
        if (s.mouths.size() == 3) return no(-7);
        Mouth m = new Mouth();
        m.cell = c;
        s.mouths.add(m);
        return s.mouths.size() - 1;
    }

    int gate(int m, boolean shut) {
        if (!in(m, 0, s.mouths.size() - 1)) return no(-1);
        boolean was = s.mouths.get(m).shut;
        s.mouths.get(m).shut = shut;
        return was != shut ? 1 : 0;
    }

    int row(int p, int sort, int n) {
        if (!in(p, 0, 7)) return no(-1);
        if (n < 0) return no(-4);
        if (!in(sort, 0, 3)) return no(-6);
        if (n > 96) return no(-7);
        Row r = new Row();
        r.sort = sort;
        r.v = new long[n];
        shelf[p] = r;
        return 1;
    }

    static long cut(int sort, long v) {
        int bits = 8 << sort;
        return sort == 3 ? v : v << 64 - bits >> 64 - bits;
    }

    private int wants(int p) {
        if (!in(p, 0, 7)) return -1;
        if (shelf[p] instanceof Integer) return -2;
        return shelf[p] == null ? -3 : 0;
    }

    int set(int p, int i, long v) {
        int w = wants(p);
        if (w != 0) return no(w);
        Row r = (Row) shelf[p];
        if (!in(i, 0, r.v.length - 1)) return no(-5);
        r.v[i] = cut(r.sort, v);
        return 1;
    }

    int copy(int p, int q, int i, int j, int n) {
        if (!in(p, 0, 7) || !in(q, 0, 7)) return no(-1);
        if (wants(p) == -2 || wants(q) == -2) return no(-2);
        if (shelf[p] == null || shelf[q] == null) return no(-3);
        Row a = (Row) shelf[p];
        Row b = (Row) shelf[q];
        if (a.sort != b.sort) return no(-2);
        if (n < 0) return no(-4);
        if (i < 0 || j < 0 || (long) i + n > a.v.length || (long) j + n > b.v.length) return no(-5);
        long[] ahead = a.v.clone();
        for (int k = 0; k < n; k++) {
            b.v[j + k] = ahead[i + k];
        }
        return 1;
    }

    long element(int p, int i) {
        return wants(p) == 0 && in(i, 0, ((Row) shelf[p]).v.length - 1) ? ((Row) shelf[p]).v[i] : 0;
    }

    int show(int p, int h) {
        if (!in(p, 0, 7) || h != NONE && !in(h, 0, s.houses.size() - 1)) return no(-1);
        shelf[p] = h == NONE ? null : Integer.valueOf(h);
        return h == NONE ? 0 : 1;
    }

    int holds(int p) {
        if (!in(p, 0, 7) || shelf[p] == null) return NONE;
        return shelf[p] instanceof Row r ? 100 + r.sort : (Integer) shelf[p];
    }

    int harm(int p, int kind) {
        if (!in(p, 0, 7) || !in(kind, 0, 2)) return no(-1);
        if (shelf[p] instanceof Row) return no(-2);
        if (shelf[p] == null) return no(-3);
        House h = s.houses.get((Integer) shelf[p]);
        if (kind == 0) return h.wets;
        if (kind != h.kind) return no(-2);
        return kind == 1 ? h.loss : h.salt;
    }

    int sea(int p, boolean forecast) {
        int w = wants(p);
        if (w != 0) return no(w);
        Row r = (Row) shelf[p];
        Row given = new Row();
        given.sort = r.sort;
        given.v = r.v.clone();
        if (forecast) {
            s.forecast = given;
        } else {
            s.sea = given;
        }
        return r.v.length;
    }

    static int heightOf(Row r, int q) {
        if (r == null || r.v.length == 0) return 0;
        long v = r.v[q % r.v.length];
        long least = r.sort == 3 ? Long.MIN_VALUE : -(1L << (8 << r.sort) - 1);
        if (v == least) return 30;
        int asInt = (int) v;
        return asInt > 300 ? 300 : asInt < -300 ? -300 : asInt;
    }

    int seaAt(int q, boolean forecast) {
        return q < 0 ? 1000 : heightOf(forecast ? s.forecast : s.sea, q);
    }

    int rule(int what, int n) {
        int was;
        if (what == 0 && in(n, 0, 99)) {
            was = s.miss;
            s.miss = n;
        } else if (what == 1 && in(n, 1, 9)) {
            was = s.limit;
            s.limit = n;
        } else if (what == 2 && in(n, 0, 9999)) {
            was = s.calm;
            s.calm = n;
        } else {
            return no(-6);
        }
        return was;
    }

    // ---- Laws: a machine of states finds the fault; truth is told by cutting the text at its signs

    private static int head(int i, int e) {
        if (i == 0) return e == 'g' ? 1 : 0;
        if (i == 1) return e == '0' || e == '1' || e == '2' ? 1 : 0;
        return e == ':' ? 1 : 0;
    }

    /** NONE, if the elements are a law. */
    static int faultOf(int[] e) {
        for (int i = 0; i < 3; i++) {
            if (i >= e.length || head(i, e[i]) == 0) return i;
        }
        StringBuilder open = new StringBuilder();
        int state = 0; // 0 a part is wanted, 1 a sign, 2 a first digit, 3 in a number, 4 behind a part
        String number = "";
        for (int i = 3; i < e.length; i++) {
            char at = in(e[i], 1, 127) ? (char) e[i] : ' ';
            boolean digit = at >= '0' && at <= '9';
            if (state == 3 && digit && number.length() < 3 && !number.equals("0")) {
                number += at;
                continue;
            }
            if (state == 3) {
                state = 4;
                unwind(open);
            }
            if (state == 0 && (at == '(' || at == '!')) {
                if (open.length() == 20) return i;
                open.append(at);
            } else if (state == 0 && "fslhwd".indexOf(at) >= 0) {
                state = 1;
            } else if (state == 1 && "<>=".indexOf(at) >= 0) {
                state = 2;
            } else if (state == 2 && digit) {
                state = 3;
                number = "" + at;
            } else if (state == 4 && (at == '&' || at == '|')) {
                state = 0;
            } else if (state == 4 && at == ')' && open.length() > 0) {
                open.setLength(open.length() - 1);
                unwind(open);
            } else {
                return i;
            }
        }
        if (state == 3) unwind(open);
        return (state == 3 || state == 4) && open.length() == 0 ? NONE : e.length;
    }

    /** A part is at its end: so is each ! right ahead of it. */
    private static void unwind(StringBuilder open) {
        while (open.length() > 0 && open.charAt(open.length() - 1) == '!') {
            open.setLength(open.length() - 1);
        }
    }

    static boolean truth(String expr, State s) {
        for (char sign : new char[] {'|', '&'}) {
            int depth = 0;
            for (int i = 0; i < expr.length(); i++) {
                char at = expr.charAt(i);
                depth += at == '(' ? 1 : at == ')' ? -1 : 0;
                if (at == sign && depth == 0) {
                    boolean left = truth(expr.substring(0, i), s);
                    boolean right = truth(expr.substring(i + 1), s);
                    return sign == '|' ? left | right : left & right;
                }
            }
        }
        if (expr.charAt(0) == '!') return !truth(expr.substring(1), s);
        if (expr.charAt(0) == '(') return truth(expr.substring(1, expr.length() - 1), s);
        int value = fieldOf(expr.charAt(0), s);
        int number = Integer.parseInt(expr.substring(2));
        return expr.charAt(1) == '<' ? value < number : expr.charAt(1) == '>' ? value > number : value == number;
    }

    static int greatest(int[] level) {
        int g = Integer.MIN_VALUE;
        for (int v : level) {
            g = Math.max(g, v);
        }
        return g;
    }

    static int goals(State s) {
        int many = 0;
        for (Boat b : s.boats) {
            many += b.goal == NONE ? 0 : 1;
        }
        return many;
    }

    static int fieldOf(char name, State s) {
        switch (name) {
            case 's':
                return heightOf(s.forecast, s.now);
            case 'l':
                return greatest(s.level);
            case 'h':
                return s.now % 96 / 4;
            case 'w':
                return goals(s);
            case 'd':
                return s.now / 96;
            default:
                int f = heightOf(s.forecast, s.now + 7);
                for (int k = 0; k < 7; k++) {
                    f = Math.max(f, heightOf(s.forecast, s.now + k));
                }
                return f + s.miss;
        }
    }

    int law(int p) {
        int w = wants(p);
        if (w != 0) return no(w);
        long[] v = ((Row) shelf[p]).v;
        int[] e = new int[v.length];
        StringBuilder text = new StringBuilder();
        for (int i = 0; i < e.length; i++) {
            e[i] = (int) v[i];
            text.append((char) e[i]);
        }
        fault = faultOf(e);
        if (fault != NONE) return no(-6);
        if (s.laws.size() == 5) return no(-7);
        Law law = new Law();
        law.text = text.toString();
        s.laws.add(law);
        return s.laws.size() - 1;
    }

    int fault() {
        return fault;
    }

    int force(int k, boolean is) {
        if (!in(k, 0, s.laws.size() - 1)) return no(-1);
        boolean was = s.laws.get(k).force;
        s.laws.get(k).force = is;
        return was != is ? 1 : 0;
    }

    int says(int k) {
        if (!in(k, 0, s.laws.size() - 1)) return NONE;
        return truth(s.laws.get(k).text.substring(3), s) ? 1 : 0;
    }

    int house(int kind, int c, int floor, int sink, int goods) {
        if (!in(kind, 0, 2) || !cellIs(c)) return no(-1);
        if (!in(floor, 0, 200) || !in(sink, 0, 99) || !in(goods, 0, 99)) return no(-6);
        if (s.houses.size() == 12) return no(-7);
        House h = new House();
        h.kind = kind;
        h.cell = c;
        h.floor = floor;
        h.sink = sink;
        h.goods = goods;
        s.houses.add(h);
        return s.houses.size() - 1;
    }

    int raise(int h, int n) {
        if (!in(h, 0, s.houses.size() - 1)) return no(-1);
        if (!in(n, 1, 50)) return no(-6);
        House g = s.houses.get(h);
        g.floor += n;
        if (g.floor > 300) g.floor = 300;
        return g.floor;
    }

    int about(int h, int what) {
        if (!in(h, 0, s.houses.size() - 1) || !in(what, 0, 7)) return NONE;
        House g = s.houses.get(h);
        return new int[] {g.kind, g.cell, g.floor, g.sank, g.wets, g.loss, g.salt, g.wet ? 1 : 0}[what];
    }

    int boat(int c, int draught, int height, int speed, int rank) {
        if (!cellIs(c)) return no(-1);
        if (!in(draught, 1, 60) || !in(height, 1, 99) || !in(speed, 1, 9) || !in(rank, 0, 9)) return no(-6);
        if (s.boats.size() == 6) return no(-7);
        Boat b = new Boat();
        b.cell = c;
        b.draught = draught;
        b.height = height;
        b.speed = speed;
        b.rank = rank;
        s.boats.add(b);
        return s.boats.size() - 1;
    }

    int goal(int b, int c) {
        if (!in(b, 0, s.boats.size() - 1) || c != NONE && !cellIs(c)) return no(-1);
        Boat a = s.boats.get(b);
        int was = a.goal;
        a.goal = c;
        if (a.goal == a.cell) a.goal = NONE;
        return was;
    }

    static boolean passes(State s, Boat b, int x, int y) {
        if (!beside(x, y) || s.closed[x][y]) return false;
        boolean deep = s.level[x] + s.depth[x] >= b.draught && s.level[y] + s.depth[y] >= b.draught;
        boolean high = s.bridge[x][y] == NONE || b.height + Math.max(s.level[x], s.level[y]) <= s.bridge[x][y];
        return deep && high;
    }

    static int step(State s, Boat b) {
        if (b.goal == NONE) return NONE;
        int[] far = new int[25];
        java.util.Arrays.fill(far, 1000);
        far[b.goal] = 0;
        for (int round = 0; round < 25; round++) {
            for (int x = 0; x < 25; x++) {
                for (int y = 0; y < 25; y++) {
                    if (passes(s, b, x, y)) far[x] = Math.min(far[x], far[y] + 1);
                }
            }
        }
        for (int y = 0; y < 25; y++) {
            if (passes(s, b, b.cell, y) && far[y] < 1000 && far[y] == far[b.cell] - 1) return y;
        }
        return NONE;
    }

    int stepOf(int b) {
        return in(b, 0, s.boats.size() - 1) ? step(s, s.boats.get(b)) : NONE;
    }

    /** Lives a quarter; what can be reached grows by one way, where a set of reached cells is given. */
    static void live(State s, Row tide, boolean[] reached, Boat alone) {
        for (int m = 0; m < s.mouths.size(); m++) {
            int votes = 0;
            int yes = 0;
            for (Law law : s.laws) {
                if (law.force && law.text.charAt(1) - '0' == m) {
                    votes++;
                    if (truth(law.text.substring(3), s)) yes++;
                }
            }
            if (votes > 0) s.mouths.get(m).shut = yes > 0;
        }
        int sea = heightOf(tide, s.now);
        boolean shut = false;
        for (Mouth m : s.mouths) {
            shut |= m.shut;
        }
        boolean low = sea <= greatest(s.level);
        for (Mouth m : s.mouths) {
            if (!m.shut) {
                int half = (sea - s.level[m.cell]) / 2;
                s.level[m.cell] += half;
                s.came += half;
            }
        }
        int[] was = s.level.clone();
        for (int x = 0; x < 25; x++) {
            for (int y = 0; y < 25; y++) {
                if (beside(x, y) && !s.closed[x][y] && was[x] > was[y]) {
                    int part = (was[x] - was[y]) / 4;
                    s.level[x] -= part;
                    s.level[y] += part;
                    s.ran[x] += part;
                    s.ran[y] += part;
                }
            }
        }
        if (reached != null) {
            boolean[] before = reached.clone();
            for (int x = 0; x < 25; x++) {
                for (int y = 0; y < 25; y++) {
                    if (before[x] && passes(s, alone, x, y)) reached[y] = true;
                }
            }
        }
        sail(s);
        boolean wet = false;
        for (House h : s.houses) {
            h.wet = s.level[h.cell] > h.floor - h.sank;
            wet |= h.wet;
            h.wets += h.wet ? 1 : 0;
            if (h.kind == 1 && h.wet) h.loss += h.goods;
            if (h.kind == 2) h.salt = h.wet ? h.salt + 2 : Math.max(0, h.salt - 1);
        }
        if (wet && !shut) s.late++;
        if (shut && low) s.vain++;
        s.now++;
        if (s.now % 96 == 0) {
            for (int c = 0; c < 25; c++) {
                if (s.ran[c] < s.calm) s.depth[c] = Math.max(0, s.depth[c] - 1);
                s.ran[c] = 0;
            }
            for (House h : s.houses) {
                if (h.sink > 0 && s.now / 96 % h.sink == 0) h.sank++;
            }
        }
    }

    private static void sail(State s) {
        List<Boat> order = new ArrayList<>();
        for (Boat b : s.boats) {
            if (b.goal != NONE) order.add(b);
        }
        order.sort((a, b) -> b.rank - a.rank);
        boolean[][] over = new boolean[25][25];
        for (Boat b : order) {
            int to = step(s, b);
            if (to == NONE || s.narrow[b.cell][to] && over[b.cell][to]) {
                b.waited++;
                continue;
            }
            over[b.cell][to] = true;
            over[to][b.cell] = true;
            b.cell = to;
            b.went++;
            int speed = Math.min(s.limit, b.speed);
            int worn = Math.min(s.wall[to], speed * speed / 4);
            s.wall[to] -= worn;
            b.wore += worn;
            if (b.goal == to) {
                b.arrived++;
                b.goal = NONE;
            }
        }
    }

    int route(int b, int c, int n) {
        if (!in(b, 0, s.boats.size() - 1) || !cellIs(c)) return NONE;
        if (!in(n, 1, 96)) return no(-6);
        State t = s.twin();
        boolean[] reached = new boolean[25];
        reached[s.boats.get(b).cell] = true;
        for (int k = 0; k <= n; k++) {
            if (reached[c]) return k;
            live(t, t.forecast, reached, s.boats.get(b));
        }
        return NONE;
    }

    int sails(int b, int what) {
        if (!in(b, 0, s.boats.size() - 1) || !in(what, 0, 5)) return NONE;
        Boat a = s.boats.get(b);
        return new int[] {a.cell, a.goal, a.waited, a.arrived, a.wore, a.went}[what];
    }

    int quarters(int n) {
        if (!in(n, 1, 200)) return no(-6);
        if (s.now + n > 20000) return no(-7);
        for (int k = 0; k < n; k++) {
            live(s, s.sea, null, null);
        }
        return s.now;
    }

    int foretold(int c, int n) {
        if (!cellIs(c) || !in(n, 0, 200)) return 1000;
        State t = s.twin();
        for (int k = 0; k < n; k++) {
            live(t, t.forecast, null, null);
        }
        return t.level[c];
    }

    int best(int n, int what) {
        if (!in(n, 1, 48) || !in(what, 0, 1)) return no(-6);
        int least = Integer.MAX_VALUE;
        int which = 0;
        for (int set = (1 << s.laws.size()) - 1; set >= 0; set--) {
            State t = s.twin();
            for (int k = 0; k < t.laws.size(); k++) {
                t.laws.get(k).force = (set & 1 << k) != 0;
            }
            int sum = 0;
            for (int k = 0; k < n; k++) {
                int waited = 0;
                for (Boat b : t.boats) {
                    waited -= b.waited;
                }
                live(t, t.forecast, null, null);
                for (Boat b : t.boats) {
                    waited += b.waited;
                }
                for (House h : t.houses) {
                    sum += h.wet ? 10 : 0;
                }
                sum += waited;
            }
            if (sum <= least) {
                least = sum;
                which = set;
            }
        }
        return what == 0 ? which : least;
    }

    int dredge(int c, int n) {
        if (!cellIs(c)) return no(-1);
        if (!in(n, 1, 20)) return no(-6);
        s.depth[c] += n;
        if (s.depth[c] > 60) s.depth[c] = 60;
        return s.depth[c];
    }

    int image() {
        kept = s.twin();
        return s.now;
    }

    int restore() {
        if (kept == null) return no(-6);
        s = kept.twin();
        for (int p = 0; p < 8; p++) {
            if (shelf[p] instanceof Integer h && h >= s.houses.size()) shelf[p] = null;
        }
        return s.now;
    }

    int cell(int c, int what) {
        if (!cellIs(c) || !in(what, 0, 4)) return 1_000_000;
        return new int[] {s.depth[c], s.level[c], s.wall[c], s.ran[c], mouthAt(c)}[what];
    }

    int way(int a, int b, int what) {
        if (!beside(a, b) || !in(what, 0, 2)) return NONE;
        return new int[] {s.closed[a][b] ? 1 : 0, s.narrow[a][b] ? 1 : 0, s.bridge[a][b]}[what];
    }

    int status(int what) {
        if (!in(what, 0, 18)) return -1_000_001;
        int shut = 0;
        for (Mouth m : s.mouths) {
            shut += m.shut ? 1 : 0;
        }
        int force = 0;
        for (Law law : s.laws) {
            force += law.force ? 1 : 0;
        }
        int levels = 0;
        for (int v : s.level) {
            levels += v;
        }
        int[] first = {s.mouths.size(), shut, s.laws.size(), force, s.houses.size(), s.boats.size(), goals(s),
            s.now, s.late, s.vain, levels};
        return what < 11 ? first[what] : what == 18 ? s.came : refusals[what - 10];
    }
}
