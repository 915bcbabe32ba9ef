/** What laws say, and where their faults are (promises 19, 20, 22 and part 2 of the terms). */
public final class LawTests {
    private static final Check check = new Check("LawTests");

    public static void main(String[] args) {
        faults();
        depths();
        letters();
        truths();
        fieldF();
        fieldsOfTime();
        fieldsOfThings();
        longLaws();
        check.end();
    }

    private static void fault(String text, int place) {
        City c = new City(check);
        c.letters(7, 0, text);
        if (place == WaterCity.NONE) {
            c.due("law \"" + text + "\"", 0, () -> c.x.law(7));
        } else {
            c.refusedAlone("law \"" + text + "\"", -6, () -> c.x.law(7));
        }
        check.same("fault of \"" + text + "\"", c.x.fault(), place);
        check.same("how many laws", c.x.status(2), place == WaterCity.NONE ? 1 : 0);
    }

    private static void good(String text) {
        fault(text, WaterCity.NONE);
    }

    private static void faults() {
        fault("", 0);
        fault("G0:f>1", 0);
        fault("g", 1);
        fault("g3:f>1", 1);
        fault("g/:f>1", 1);
        fault("g0", 2);
        fault("g00:f>1", 2);
        fault("g0;f>1", 2);
        fault("g0:", 3);
        fault("g0:x>1", 3);
        fault("g0:F>1", 3);
        fault("g0:)", 3);
        fault("g0:|", 3);
        fault("g0:&f>1", 3);
        fault("g0:1<f", 3);
        fault("g0: f>1", 3);
        fault("g0:f", 4);
        fault("g0:ff>1", 4);
        fault("g0:f!1", 4);
        fault("g0:f>", 5);
        fault("g0:f>=1", 5);
        fault("g0:f>-1", 5);
        fault("g0:f>f", 5);
        fault("g0:f>/", 5);
        fault("g0:f>:", 5);
        fault("g0:f>1 ", 6);
        fault("g0:f>01", 6);
        fault("g0:f>00", 6);
        fault("g0:f>1000", 8);
        fault("g0:f>1)", 6);
        fault("g0:f>1!", 6);
        fault("g0:f>1(", 6);
        fault("g0:f>1|", 7);
        fault("g0:f>1&", 7);
        fault("g0:f>1||f>1", 7);
        fault("g0:f>1|)", 7);
        fault("g0:!", 4);
        fault("g0:!)", 4);
        fault("g0:!|f>1", 4);
        fault("g0:(f>1", 7);
        fault("g0:()", 4);
        fault("g0:(f>1))", 8);
        fault("g0:(f>1)f>1", 8);
        fault("g0:(f>1)1", 8);
        fault("g0:(f>1|f>1", 11);
        fault("g0:(f>10&(s<5|l=3)&)", 19);
        good("g0:f>0");
        good("g1:s<999");
        good("g2:l=10");
        good("g0:h>100&w<200|d=0");
        good("g0:!f>1");
        good("g0:!!f>1");
        good("g0:(f>1)");
        good("g0:!(f>1|!s<2)&((l=3))");
    }

    private static void depths() {
        good("g0:" + "(".repeat(20) + "f>1" + ")".repeat(20));
        good("g0:" + "!".repeat(20) + "f>1");
        good("g0:" + "!(".repeat(10) + "f>1" + ")".repeat(10));
        good("g0:" + "(".repeat(19) + "f>1&!s>1" + ")".repeat(19));
        good("g0:" + "!".repeat(20) + "f>1&" + "!".repeat(20) + "f>1");
        good("g0:" + "(".repeat(20) + "f>1" + ")".repeat(20) + "&!" + "(".repeat(10) + "f>1" + ")".repeat(10));
        fault("g0:" + "(".repeat(21) + "f>1" + ")".repeat(21), 23);
        fault("g0:" + "!".repeat(21) + "f>1", 23);
        fault("g0:" + "!(".repeat(10) + "!f>1" + ")".repeat(10), 23);
        fault("g0:" + "(".repeat(20) + "f>1&!s>1" + ")".repeat(20), 27);
        fault("g0:" + "(".repeat(90), 23);
        fault("g0:" + "!".repeat(93), 23);
        fault("g0:" + "(".repeat(20), 23);
        fault("g0:" + "(".repeat(20) + "f>1" + ")".repeat(19), 45);
        fault("g0:" + "(".repeat(20) + "f>1" + ")".repeat(21), 46);
    }

    /** Elements are taken as ints: no number outside the letters may pass as one. */
    private static void letters() {
        for (int sort = 1; sort < 4; sort++) {
            for (int place = 0; place < 6; place++) {
                City c = new City(check);
                c.letters(0, sort, "g0:f>1");
                c.x.set(0, place, c.x.element(0, place) + 256);
                c.refusedAlone("256 above a letter", -6, () -> c.x.law(0));
                check.same("its fault", c.x.fault(), place);
                c.x.set(0, place, -1);
                c.refusedAlone("-1", -6, () -> c.x.law(0));
                check.same("its fault", c.x.fault(), place);
                if (sort > 1) {
                    c.letters(0, sort, "g0:f>1");
                    c.x.set(0, place, c.x.element(0, place) + 65_536);
                    c.refusedAlone("65,536 above a letter", -6, () -> c.x.law(0));
                    check.same("its fault", c.x.fault(), place);
                    c.x.set(0, place, Integer.MIN_VALUE);
                    c.refusedAlone("the least int", -6, () -> c.x.law(0));
                    check.same("its fault", c.x.fault(), place);
                }
                if (sort == 3) {
                    c.letters(0, sort, "g0:f>1");
                    c.x.set(0, place, c.x.element(0, place) - (1L << 32));
                    check.same("of longs the lowest 32 bits", c.x.law(0), 0);
                }
            }
        }
        City d = new City(check);
        d.x.row(0, 0, 7);
        String text = "g0:f>1";
        for (int i = 0; i < 6; i++) {
            d.x.set(0, i, text.charAt(i));
        }
        d.refusedAlone("a 0 behind a law", -6, () -> d.x.law(0));
        check.same("its fault", d.x.fault(), 6);
    }

    private static void says(String expression, boolean due) {
        City c = new City(check);
        check.same("law " + expression, c.law("g0:" + expression), 0);
        check.same("says " + expression, c.x.says(0), due ? 1 : 0);
    }

    /** On a new object every field is 0: x=0 is true and x=1 is false. */
    private static void truths() {
        String t = "f=0";
        String n = "f=1";
        says(t, true);
        says(n, false);
        says("f<1", true);
        says("f<0", false);
        says("f>0", false);
        says("l<999", true);
        says("l>999", false);
        says("!" + t, false);
        says("!" + n, true);
        says("!!" + t, true);
        says(t + "&" + n, false);
        says(n + "&" + t, false);
        says(t + "&" + t, true);
        says(n + "&" + n, false);
        says(t + "|" + n, true);
        says(n + "|" + t, true);
        says(n + "|" + n, false);
        says(t + "|" + t, true);
        says(t + "|" + n + "&" + n, true);
        says("(" + t + "|" + n + ")&" + n, false);
        says(n + "&" + n + "|" + t, true);
        says(n + "&(" + n + "|" + t + ")", false);
        says("!" + t + "|" + t, true);
        says("!(" + t + "|" + t + ")", false);
        says("!" + n + "&" + n, false);
        says("!(" + n + "&" + n + ")", true);
        says(n + "|" + n + "|" + t, true);
        says(t + "&" + t + "&" + n, false);
        says(t + "|" + n + "|" + n, true);
        says(n + "&" + t + "&" + t, false);
        says(t + "&(" + n + "|(" + t + "&!" + n + "))", true);
        says(t + "&(" + n + "|(" + t + "&!" + t + "))", false);
    }

    private static boolean holds(City c, String expression) {
        City twin = c.twin();
        int number = twin.law("g0:" + expression);
        check.same("law " + expression, number, 0);
        return twin.x.says(number) == 1;
    }

    private static void field(City c, String name, int due) {
        check.isTrue(name + " is " + due, holds(c, name + "=" + due));
        check.isTrue(name + " is not above " + due, !holds(c, name + ">" + due));
        check.isTrue(name + " is not below " + due, !holds(c, name + "<" + due));
        if (due > 0) {
            check.isTrue(name + " is above " + (due - 1), holds(c, name + ">" + (due - 1)));
        }
        check.isTrue(name + " is below " + (due + 1), holds(c, name + "<" + (due + 1)));
    }

    private static void fieldF() {
        int[] heights = new int[20];
        for (int i = 0; i < 20; i++) {
            heights[i] = -50;
        }
        heights[7] = 90;
        heights[8] = 200;
        City c = new City(check);
        c.heights(true, heights);
        c.heights(false, 299);
        field(c, "f", 90);
        check.isTrue("s is below 0", holds(c, "s<0"));
        c.x.rule(0, 9);
        field(c, "f", 99);
        check.isTrue("MISS is no part of s", holds(c, "s<0"));
        c.live(1);
        field(c, "f", 209);
        c.live(7);
        field(c, "f", 209);
        field(c, "s", 200);
        c.live(1);
        check.isTrue("f behind it", holds(c, "f<0"));
        c.x.rule(0, 99);
        field(c, "f", 49);
        c.live(3);
        field(c, "f", 49);
        c.live(8);
        field(c, "f", 189);
        for (int peak = 0; peak < 9; peak++) {
            int[] one = new int[16];
            one[peak] = 40;
            City e = new City(check);
            e.heights(true, one);
            field(e, "f", peak < 8 ? 40 : 0);
        }
        // a short row comes round again within the eight
        City d = new City(check);
        d.heights(true, 5, 70, 6);
        field(d, "f", 70);
        d.heights(true);
        d.x.rule(0, 33);
        field(d, "f", 33);
        field(d, "s", 0);
    }

    private static void fieldsOfTime() {
        City c = new City(check);
        field(c, "h", 0);
        field(c, "d", 0);
        c.live(3);
        field(c, "h", 0);
        c.live(1);
        field(c, "h", 1);
        c.live(91);
        field(c, "h", 23);
        field(c, "d", 0);
        c.live(1);
        field(c, "h", 0);
        field(c, "d", 1);
        c.live(96 + 50);
        field(c, "h", 12);
        field(c, "d", 2);
    }

    private static void fieldsOfThings() {
        City c = new City(check);
        field(c, "l", 0);
        c.x.level(24, 7);
        field(c, "l", 7);
        c.x.level(0, 300);
        field(c, "l", 300);
        for (int cell = 0; cell < 25; cell++) {
            c.x.level(cell, -30);
        }
        for (int cell = 0; cell < 25; cell++) {
            c.x.level(cell, 9);
            field(c, "l", 9);
            c.x.level(cell, -30);
        }
        check.isTrue("l is below 0", holds(c, "l<0"));
        c.x.level(13, 2);
        field(c, "l", 2);
        for (int b = 0; b < 6; b++) {
            c.x.boat(0, 60, 1, 1, 0);
            field(c, "w", b);
            c.x.goal(b, 5);
            field(c, "w", b + 1);
        }
        c.x.goal(2, WaterCity.NONE);
        field(c, "w", 5);
    }

    /** Laws of 96 letters, of which every one must be read. */
    private static void longLaws() {
        StringBuilder either = new StringBuilder("g0:f=1");
        StringBuilder both = new StringBuilder("g0:f=0");
        while (either.length() + 4 <= 96) {
            either.append("|s=1");
            both.append("&s=0");
        }
        String text = either + "00";
        check.same("its length", text.length(), 96);
        City c = new City(check);
        check.same("the longest law", c.law(text), 0);
        check.same("says", c.x.says(0), 0);
        check.same("the longest law", c.law(text.substring(0, 92) + "<100"), 1);
        check.same("says", c.x.says(1), 1);
        check.same("the longest law", c.law(both.toString()), 2);
        check.same("says", c.x.says(2), 1);
        check.same("the longest law", c.law(both.toString().replace("s=0&s=0&s=0&s=0", "s=0&s=0&s=1&s=0")), 3);
        check.same("says", c.x.says(3), 0);
        // two values stay open at each bracket: f=0 is true, w=1 is false
        String open = "w=1|f=0&(";
        check.same("a deep law", c.law("g0:" + open.repeat(9) + "d=0" + ")".repeat(9)), 4);
        check.same("says", c.x.says(4), 1);
        City d = new City(check);
        check.same("a deep law", d.law("g0:" + open.repeat(9) + "d=1" + ")".repeat(9)), 0);
        check.same("says", d.x.says(0), 0);
        check.same("not of it", d.law("g0:" + "!(".repeat(9) + "w=1|d=0&f=0" + ")".repeat(9)), 1);
        check.same("says", d.x.says(1), 0);
    }
}
