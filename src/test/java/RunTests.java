/** Runs of chosen calls, the same each time: WaterCity has to answer as CityModel does, up to the 512th call. */
public final class RunTests {
    private static final int RUNS = 1_000;
    private static final int DEAREST_STEP = 100;
    private static final int NONE = WaterCity.NONE;

    private final Check check;
    private final Asked x = new Asked();
    private final CityModel m = new CityModel();
    private long seed;

    private RunTests(Check check, int run) {
        this.check = check;
        this.seed = run * 1_000_003L + 17;
    }

    public static void main(String[] args) {
        Check check = new Check("RunTests");
        for (int run = 0; run < RUNS && !check.hasWrong(); run++) {
            new RunTests(check, run).go(run);
        }
        check.end();
    }

    private void go(int run) {
        if (run % 20 == 19) {
            comeLate("run " + run + " comes late: ");
        }
        for (int step = 0; x.left() >= DEAREST_STEP && !check.hasWrong(); step++) {
            String told = "run " + run + " step " + step + ": ";
            if (step < 30 && run % 4 != 3) {
                build(told);
            } else {
                any(told);
            }
        }
        while (x.left() > 0 && !check.hasWrong()) {
            look("run " + run + " at its end: ");
        }
    }

    /** A run that begins where the last quarters are not far. */
    private void comeLate(String told) {
        for (int n = 0; n < 99; n++) {
            same(told + "quarters 200", x.quarters(200), m.quarters(200));
        }
        int more = upTo(200) + 1;
        same(told + "quarters " + more, x.quarters(more), m.quarters(more));
    }

    private int upTo(int n) {
        seed = seed * 6_364_136_223_846_793_005L + 1_442_695_040_888_963_407L;
        return (int) Long.remainderUnsigned(seed >>> 33, n);
    }

    private boolean coin() {
        return upTo(2) == 0;
    }

    /** Mostly a number from least to most, now and then its edges, or one that is far off. */
    private int number(int least, int most) {
        int luck = upTo(60);
        if (luck == 0) {
            return least - 1;
        }
        if (luck == 1) {
            return most + 1;
        }
        if (luck == 2) {
            return new int[] {Integer.MIN_VALUE, Integer.MAX_VALUE, -7, 1000}[upTo(4)];
        }
        if (luck < 8) {
            return coin() ? least : most;
        }
        return least + upTo(most - least + 1);
    }

    private int cell() {
        return number(0, 24);
    }

    private int besides(int a) {
        int[] away = {-5, -1, 1, 5};
        return upTo(12) == 0 ? cell() : a + away[upTo(4)];
    }

    private void same(String told, long got, long due) {
        check.same(told, got, due);
    }

    private void build(String told) {
        switch (upTo(8)) {
            case 0: ways(told); break;
            case 1: depths(told); break;
            case 2: mouths(told); break;
            case 3: houses(told); break;
            case 4:
            case 5: boats(told); break;
            case 6: tides(told); break;
            default: lawsRead(told); break;
        }
    }

    private void any(String told) {
        switch (upTo(18)) {
            case 0: ways(told); break;
            case 1: depths(told); break;
            case 2: mouths(told); break;
            case 3: rows(told); break;
            case 4: houseShelves(told); break;
            case 5: tides(told); break;
            case 6: lawsRead(told); break;
            case 7: lawsUsed(told); break;
            case 8: houses(told); break;
            case 9: boats(told); break;
            case 10: goals(told); break;
            case 11:
            case 12: asks(told); break;
            case 13: quarters(told); break;
            case 14: foretold(told); break;
            case 15: images(told); break;
            case 16: rules(told); break;
            default: look(told); break;
        }
    }

    private void ways(String told) {
        int a = cell();
        int b = besides(a);
        boolean is = upTo(3) > 0;
        int height = number(NONE, 99);
        switch (upTo(3)) {
            case 0: same(told + "close " + a + " " + b + " " + is, x.close(a, b, is), m.close(a, b, is)); break;
            case 1: same(told + "narrow " + a + " " + b + " " + is, x.narrow(a, b, is), m.narrow(a, b, is)); break;
            default: same(told + "bridge " + a + " " + b + " " + height, x.bridge(a, b, height), m.bridge(a, b, height));
        }
    }

    private void depths(String told) {
        int c = cell();
        int n = number(0, 60);
        int l = number(-300, 300);
        int low = number(-30, 60);
        int more = number(1, 20);
        switch (upTo(4)) {
            case 0: same(told + "depth " + c + " " + n, x.depth(c, n), m.depth(c, n)); break;
            case 1: same(told + "level " + c + " " + l, x.level(c, l), m.level(c, l)); break;
            case 2: same(told + "level " + c + " " + low, x.level(c, low), m.level(c, low)); break;
            default: same(told + "dredge " + c + " " + more, x.dredge(c, more), m.dredge(c, more)); break;
        }
    }

    private void mouths(String told) {
        int c = cell();
        int g = number(0, 2);
        boolean is = coin();
        if (coin()) {
            same(told + "mouth " + c, x.mouth(c), m.mouth(c));
        } else {
            same(told + "gate " + g + " " + is, x.gate(g, is), m.gate(g, is));
        }
    }

    private long value() {
        long[] odd = {Byte.MIN_VALUE, Short.MIN_VALUE, Integer.MIN_VALUE, Long.MIN_VALUE, Long.MAX_VALUE, 301, -301};
        if (upTo(5) == 0) {
            return odd[upTo(odd.length)];
        }
        return upTo(8) == 0 ? seed : upTo(330) - 100;
    }

    private void rows(String told) {
        int s = number(0, 7);
        int q = number(0, 7);
        int sort = number(0, 3);
        int n = coin() ? number(0, 96) : number(0, 9);
        int i = number(0, 9);
        int j = number(0, 9);
        long v = value();
        switch (upTo(4)) {
            case 0: same(told + "row " + s + " " + sort + " " + n, x.row(s, sort, n), m.row(s, sort, n)); break;
            case 1: same(told + "set " + s + " " + i + " " + v, x.set(s, i, v), m.set(s, i, v)); break;
            case 2:
                int many = number(0, 12);
                same(told + "copy " + s + " " + q + " " + i + " " + j + " " + many,
                    x.copy(s, q, i, j, many), m.copy(s, q, i, j, many));
                break;
            default: same(told + "element " + s + " " + i, x.element(s, i), m.element(s, i)); break;
        }
    }

    private void houseShelves(String told) {
        int s = number(0, 7);
        int h = number(NONE, Math.max(0, m.s.houses.size() - 1));
        int kind = number(0, 2);
        switch (upTo(3)) {
            case 0: same(told + "show " + s + " " + h, x.show(s, h), m.show(s, h)); break;
            case 1: same(told + "holds " + s, x.holds(s), m.holds(s)); break;
            default: same(told + "harm " + s + " " + kind, x.harm(s, kind), m.harm(s, kind)); break;
        }
    }

    private void tides(String told) {
        int s = number(0, 7);
        boolean forecast = coin();
        if (upTo(4) > 0) {
            int n = upTo(14);
            int sort = upTo(4);
            x.row(s, sort, n);
            m.row(s, sort, n);
            for (int i = 0; i < n; i++) {
                long v = value();
                same(told + "set " + s + " " + i + " " + v, x.set(s, i, v), m.set(s, i, v));
            }
        }
        same(told + "sea " + s + " " + forecast, x.sea(s, forecast), m.sea(s, forecast));
        if (coin()) {
            same(told + "sea " + s + " " + !forecast, x.sea(s, !forecast), m.sea(s, !forecast));
        }
        int q = number(0, 20000);
        same(told + "seaAt " + q, x.seaAt(q, forecast), m.seaAt(q, forecast));
    }

    private String expression(int depth) {
        int luck = upTo(10);
        if (luck < 5 || depth > 5) {
            int n = upTo(3) == 0 ? upTo(1000) : upTo(60);
            return "" + "fslhwd".charAt(upTo(6)) + "<>=".charAt(upTo(3)) + n;
        }
        if (luck < 6) {
            return "!" + expression(depth + 4);
        }
        if (luck < 7) {
            return "(" + expression(depth + 1) + ")";
        }
        return expression(depth + 1) + (coin() ? "&" : "|") + expression(depth + 1);
    }

    private void lawsRead(String told) {
        int s = upTo(8);
        int sort = upTo(4);
        String text = "g" + upTo(3) + ":" + expression(0);
        if (upTo(12) == 0) {
            String open = coin() ? "!(" : coin() ? "((" : "!!";
            text = "g0:" + open.repeat(8 + upTo(4)) + "f>1" + ")".repeat(upTo(24));
        }
        text = text.substring(0, Math.min(96, text.length()));
        if (upTo(3) == 0) {
            int at = upTo(text.length() + 1);
            String signs = "g012:fslhwd<>=&|!()0123456789 x";
            String put = "" + signs.charAt(upTo(signs.length()));
            text = text.substring(0, at) + (coin() ? "" : put) + text.substring(Math.min(text.length(), at + upTo(2)));
            text = text.substring(0, Math.min(96, text.length()));
        }
        x.row(s, sort, text.length());
        m.row(s, sort, text.length());
        for (int i = 0; i < text.length(); i++) {
            long v = text.charAt(i) + (sort == 3 && upTo(9) == 0 ? (long) upTo(99) << 32 : 0);
            if (upTo(400) == 0) {
                v += 256L << 8 * upTo(3);
            }
            x.set(s, i, v);
            m.set(s, i, v);
        }
        same(told + "law " + text, x.law(s), m.law(s));
        same(told + "fault of " + text, x.fault(), m.fault());
        int k = m.s.laws.size() - 1;
        same(told + "says of the latest law", x.says(k), m.says(k));
    }

    private void lawsUsed(String told) {
        int k = number(0, 4);
        boolean is = coin();
        int n = upTo(4) == 0 ? number(1, 48) : number(1, 12);
        int what = number(0, 1);
        switch (upTo(3)) {
            case 0: same(told + "force " + k + " " + is, x.force(k, is), m.force(k, is)); break;
            case 1: same(told + "says " + k, x.says(k), m.says(k)); break;
            default:
                if (upTo(4) == 0) {
                    same(told + "best " + n + " " + what, x.best(n, what), m.best(n, what));
                }
        }
    }

    private void houses(String told) {
        int kind = number(0, 2);
        int c = cell();
        int floor = upTo(3) == 0 ? number(0, 200) : number(0, 40);
        int sink = coin() ? number(0, 99) : number(0, 3);
        int goods = number(0, 99);
        int h = number(0, 11);
        int n = number(1, 50);
        if (upTo(3) > 0) {
            same(told + "house " + kind + " " + c + " " + floor + " " + sink + " " + goods,
                x.house(kind, c, floor, sink, goods), m.house(kind, c, floor, sink, goods));
        } else {
            same(told + "raise " + h + " " + n, x.raise(h, n), m.raise(h, n));
        }
    }

    private void boats(String told) {
        int c = cell();
        int draught = coin() ? number(1, 60) : number(1, 25);
        int height = number(1, 99);
        int speed = number(1, 9);
        int rank = coin() ? number(0, 9) : number(0, 1);
        if (coin()) {
            same(told + "boat " + c + " " + draught + " " + height + " " + speed + " " + rank,
                x.boat(c, draught, height, speed, rank), m.boat(c, draught, height, speed, rank));
        } else {
            goals(told);
        }
    }

    private void goals(String told) {
        int b = upTo(5) == 0 ? number(0, 5) : upTo(Math.max(1, m.s.boats.size()));
        int c = upTo(9) == 0 ? number(NONE, 24) : cell();
        same(told + "goal " + b + " " + c, x.goal(b, c), m.goal(b, c));
    }

    private void asks(String told) {
        int b = upTo(5) == 0 ? number(0, 5) : upTo(Math.max(1, m.s.boats.size()));
        int c = cell();
        int n = number(1, 96);
        int what = number(0, 5);
        switch (upTo(3)) {
            case 0: same(told + "stepOf " + b, x.stepOf(b), m.stepOf(b)); break;
            case 1: same(told + "sails " + b + " " + what, x.sails(b, what), m.sails(b, what)); break;
            default: same(told + "route " + b + " " + c + " " + n, x.route(b, c, n), m.route(b, c, n)); break;
        }
    }

    private void quarters(String told) {
        int n = upTo(6) == 0 ? number(1, 200) : number(1, 6);
        same(told + "quarters " + n, x.quarters(n), m.quarters(n));
    }

    private void foretold(String told) {
        int c = cell();
        int n = upTo(6) == 0 ? number(0, 200) : number(0, 20);
        same(told + "foretold " + c + " " + n, x.foretold(c, n), m.foretold(c, n));
    }

    private void images(String told) {
        if (upTo(5) == 0) {
            same(told + "image", x.image(), m.image());
        } else if (upTo(5) == 0) {
            same(told + "restore", x.restore(), m.restore());
            for (int i = 0; i < 9; i++) {
                look(told + "behind restore: ");
            }
        }
    }

    private void rules(String told) {
        int what = number(0, 2);
        int n = what == 0 ? number(0, 99) : what == 1 ? number(1, 9) : coin() ? number(0, 9999) : number(0, 60);
        same(told + "rule " + what + " " + n, x.rule(what, n), m.rule(what, n));
    }

    /** What can be asked without changing anything. */
    private void look(String told) {
        int a = cell();
        int b = besides(a);
        int what = number(0, 7);
        int boat = number(0, 5);
        switch (upTo(7)) {
            case 0: same(told + "cell " + a + " " + what, x.cell(a, what), m.cell(a, what)); break;
            case 1: same(told + "way " + a + " " + b + " " + what, x.way(a, b, what), m.way(a, b, what)); break;
            case 2: same(told + "sails " + boat + " " + what, x.sails(boat, what), m.sails(boat, what)); break;
            case 3: same(told + "stepOf " + boat, x.stepOf(boat), m.stepOf(boat)); break;
            case 4: lookAtHouses(told); break;
            case 5: lookAtShelves(told); break;
            default:
                int which = number(0, 18);
                same(told + "status " + which, x.status(which), m.status(which));
                break;
        }
    }

    private void lookAtHouses(String told) {
        int h = upTo(3) == 0 ? number(0, 11) : upTo(Math.max(1, m.s.houses.size()));
        int what = number(0, 7);
        int k = number(0, 4);
        if (upTo(4) > 0) {
            same(told + "about " + h + " " + what, x.about(h, what), m.about(h, what));
        } else {
            same(told + "says " + k, x.says(k), m.says(k));
        }
    }

    private void lookAtShelves(String told) {
        int s = number(0, 7);
        int i = upTo(4) == 0 ? number(0, 95) : number(0, 12);
        int q = upTo(4) == 0 ? number(0, 20_000) : number(0, 20);
        boolean forecast = coin();
        switch (upTo(4)) {
            case 0: same(told + "holds " + s, x.holds(s), m.holds(s)); break;
            case 1: same(told + "element " + s + " " + i, x.element(s, i), m.element(s, i)); break;
            case 2: same(told + "seaAt " + q + " " + forecast, x.seaAt(q, forecast), m.seaAt(q, forecast)); break;
            default: same(told + "fault", x.fault(), m.fault()); break;
        }
    }
}
