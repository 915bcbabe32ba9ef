/** What the document says of laws at their edges: promises 19 to 22. */
final class LawEdges {
    private static final int NONE = Scene.NONE;
    private static final int MIN = Scene.MIN;
    private static final int MAX = Scene.MAX;

    private LawEdges() {
    }

    /** The text is no law: its fault is at that place, and nothing else changes. */
    private static void fault(int place, String text) {
        new Scene().letters(7, 0, text).refusedButFault(-6, x -> x.law(7)).due(place, x -> x.fault())
            .due(0, x -> x.status(2));
    }

    private static void good(String text) {
        new Scene().letters(7, 0, text).due(0, x -> x.law(7)).due(NONE, x -> x.fault()).due(1, x -> x.status(2));
    }

    /** Whether the expression holds now: asked by a law that the image takes back again. */
    private static Scene says(Scene s, int due, String expression) {
        return s.does(x -> x.image()).letters(7, 0, "g0:" + expression).due(0, x -> x.law(7))
            .due(due, x -> x.says(0)).does(x -> x.restore());
    }

    private static Scene field(Scene s, String name, int value) {
        says(s, 1, name + "=" + value);
        says(s, 0, name + "<" + value);
        return says(s, 0, name + ">" + value);
    }

    // ---- Promise 19: law

    static void promise19LawsHaveNumbersFrom0On() {
        Scene s = new Scene().letters(7, 0, "g2:f>10");
        for (int k = 0; k < 5; k++) {
            s.due(k, x -> x.law(7));
        }
        s.due(5, x -> x.status(2));
    }

    static void promise19FiveLawsAtMost() {
        Scene.full().refused(-7, x -> x.law(7)).refused(-7, x -> x.law(7)).due(5, x -> x.status(2));
    }

    static void promise19AFaultComesAheadOfRoom() {
        Scene.full().letters(7, 0, "g2:f>10)").refusedButFault(-6, x -> x.law(7)).due(7, x -> x.fault());
    }

    static void promise19NobodyComesAheadOfRoom() {
        Scene.full().refusedEach(-1, WaterCity::law, -1, 8);
    }

    static void promise19OtherAndNothingComeAheadOfRoom() {
        Scene.full().does(x -> x.show(0, 11)).refused(-2, x -> x.law(0)).refused(-3, x -> x.law(1));
    }

    static void promise19NoSuchShelf() {
        Scene.busy().refusedEach(-1, WaterCity::law, -1, 8, MIN, MAX);
    }

    static void promise19AHouseIsOther() {
        Scene.busy().refusedEach(-2, WaterCity::law, 4, 5);
    }

    static void promise19NothingIsNothing() {
        Scene.busy().refused(-3, x -> x.law(6));
    }

    static void promise19AnEmptyRowIsWrong() {
        Scene.busy().does(x -> x.row(6, 0, 0)).refusedButFault(-6, x -> x.law(6)).due(0, x -> x.fault());
    }

    static void promise19ALawIsInForceAtFirst() {
        new Scene().law("g0:d=0").due(1, x -> x.status(3)).due(0, x -> x.force(0, true));
    }

    static void promise19ALawIsInForceAtFirstWhereTheImageTookAnotherBack() {
        new Scene().does(x -> x.image()).law("g0:d=0").does(x -> x.force(0, false)).does(x -> x.restore())
            .due(0, x -> x.status(2)).law("g0:d=0").due(1, x -> x.status(3));
    }

    static void promise19TheFirstAndTheLastShelf() {
        new Scene().letters(0, 0, "g0:d=0").due(0, x -> x.law(0)).letters(7, 0, "g0:d=1").due(1, x -> x.law(7))
            .due(1, x -> x.says(0)).due(0, x -> x.says(1));
    }

    static void promise19MouthsFrom0To2ThereOrNot() {
        good("g0:f>1");
        good("g1:f>1");
        good("g2:f>1");
    }

    static void promise19ALawStaysAsItWasRead() {
        new Scene().letters(0, 0, "g0:d=0").due(0, x -> x.law(0)).due(1, x -> x.set(0, 5, '1'))
            .due(1, x -> x.says(0)).due(1, x -> x.row(0, 0, 0)).due(1, x -> x.says(0));
    }

    static void promise19LettersOfEverySort() {
        Scene s = new Scene();
        for (int n = 0; n < 4; n++) {
            int sort = n;
            s.letters(n, n, "g0:d=0").due(n, x -> x.law(sort)).due(1, x -> x.says(sort));
        }
    }

    static void promise19OfLongsTheLowest32BitsCount() {
        for (int place = 0; place < 6; place++) {
            int at = place;
            new Scene().letters(0, 3, "g0:d=0").does(x -> x.set(0, at, x.element(0, at) + (7L << 32)))
                .due(0, x -> x.law(0)).due(1, x -> x.says(0))
                .does(x -> x.set(0, at, x.element(0, at) | Long.MIN_VALUE)).due(1, x -> x.law(0));
        }
    }

    static void promise19ElementsAreIntsAndNotLess() {
        for (int place = 0; place < 6; place++) {
            int at = place;
            new Scene().letters(0, 2, "g0:d=0").does(x -> x.set(0, at, x.element(0, at) + 256))
                .refusedHere(-6, x -> x.law(0)).due(place, x -> x.fault());
            new Scene().letters(0, 3, "g0:d=0").does(x -> x.set(0, at, x.element(0, at) + 65_536))
                .refusedHere(-6, x -> x.law(0)).due(place, x -> x.fault());
        }
    }

    static void promise19NumbersAtTheEndsOfIntAreNoLetters() {
        for (int place = 0; place < 6; place++) {
            int at = place;
            for (long number : new long[] {-1, 0, MIN, MAX}) {
                new Scene().letters(0, 2, "g0:d=0").does(x -> x.set(0, at, number)).refusedHere(-6, x -> x.law(0))
                    .due(place, x -> x.fault());
            }
        }
    }

    static void promise19TheLongestRowCanBeALaw() {
        good("g0:" + "f>1&".repeat(22) + "f>100");
    }

    static void promise19ALawBehindLongOnesIsReadWhole() {
        Scene s = new Scene().letters(7, 0, "g0:" + "d=0&".repeat(22) + "d=0");
        for (int k = 0; k < 4; k++) {
            s.due(k, x -> x.law(7)).due(1, x -> x.says(0));
        }
        s.letters(7, 0, "g0:d=1").due(4, x -> x.law(7)).due(0, x -> x.says(4)).due(1, x -> x.says(3));
    }

    static void promise19TwentyBracketsWithinOneAnother() {
        good("g0:" + "(".repeat(20) + "f>1" + ")".repeat(20));
    }

    static void promise19TwentyNotsWithinOneAnother() {
        good("g0:" + "!".repeat(20) + "f>1");
    }

    static void promise19TwentyOfBothWithinOneAnother() {
        good("g0:" + "!(".repeat(10) + "f>1" + ")".repeat(10));
    }

    static void promise19BracketsBehindOneAnotherAreNotWithin() {
        good("g0:" + "(".repeat(20) + "f>1" + ")".repeat(20) + "|" + "(".repeat(20) + "f>1" + ")".repeat(20));
    }

    static void promise19NotsBehindOneAnotherAreNotWithin() {
        good("g0:" + "!".repeat(20) + "f>1&" + "!".repeat(20) + "f>1|" + "!".repeat(20) + "f>1");
    }

    // ---- Promise 20: fault

    static void promise20NoneYet() {
        new Scene().due(NONE, x -> x.fault());
    }

    static void promise20ALawHasNone() {
        Scene.busy().due(3, x -> x.fault()).law("g0:f>1").due(NONE, x -> x.fault());
    }

    static void promise20ALawForWhichThereIsNoRoomHasNone() {
        Scene.full().letters(6, 0, "x").refusedHere(-6, x -> x.law(6)).due(0, x -> x.fault())
            .refusedButFault(-7, x -> x.law(7)).due(NONE, x -> x.fault());
    }

    static void promise20WhatCameToNoRowLeavesIt() {
        Scene.busy().refused(-1, x -> x.law(8)).refused(-2, x -> x.law(4)).refused(-3, x -> x.law(6))
            .due(3, x -> x.fault());
    }

    static void promise20TheLatestCounts() {
        Scene.busy().letters(7, 0, "g0:f").refusedHere(-6, x -> x.law(7)).due(4, x -> x.fault())
            .letters(7, 0, "g").refusedHere(-6, x -> x.law(7)).due(1, x -> x.fault());
    }

    static void promise20TheImageLeavesItOut() {
        Scene.busy().does(x -> x.image()).letters(7, 0, "g0:f").refusedHere(-6, x -> x.law(7))
            .does(x -> x.restore()).due(4, x -> x.fault());
    }

    static void promise20AskingChangesNothing() {
        Scene.busy().changesNothing(x -> x.fault());
    }

    static void promise20AnEmptyRowEndsTooEarly() {
        fault(0, "");
    }

    static void promise20EachPlaceCanBeTheFirst() {
        fault(0, "x0:f>1");
        fault(1, "gx:f>1");
        fault(2, "g0xf>1");
        fault(3, "g0:x>1");
        fault(4, "g0:fx1");
        fault(5, "g0:f>x");
        fault(6, "g0:f>1x");
    }

    static void promise20EachPlaceCanBeTheEnd() {
        fault(1, "g");
        fault(2, "g0");
        fault(3, "g0:");
        fault(4, "g0:f");
        fault(5, "g0:f>");
    }

    static void promise20NothingAtTheFrontIsLeftOut() {
        fault(0, "0:f>1");
        fault(0, ":f>1");
        fault(0, "f>1");
        fault(1, "g:f>1");
        fault(1, "gf>1");
        fault(2, "g0f>1");
    }

    static void promise20NoMouthBelow0OrAbove2() {
        fault(1, "g/:f>1");
        fault(1, "g3:f>1");
        fault(1, "g9:f>1");
    }

    static void promise20AMouthHasOneDigit() {
        fault(2, "g00:f>1");
        fault(2, "g12:f>1");
    }

    static void promise20Number0() {
        good("g0:f>0");
    }

    static void promise20Number999IsTheGreatest() {
        good("g0:f>999");
    }

    static void promise20Number1000IsTooGreat() {
        fault(8, "g0:f>1000");
        fault(8, "g0:f>9990");
    }

    static void promise20No0AheadOfAnotherDigit() {
        fault(6, "g0:f>00");
        fault(6, "g0:f>01");
        fault(6, "g0:f>099");
    }

    static void promise20A0BehindAnotherDigit() {
        good("g0:f>10&f>100&f>900");
    }

    static void promise20SignsBesideTheDigits() {
        fault(5, "g0:f>/");
        fault(5, "g0:f>:");
        fault(6, "g0:f>1/");
        fault(6, "g0:f>1:");
        fault(5, "g0:f>-1");
    }

    static void promise20NoTwoTestSigns() {
        fault(5, "g0:f>=1");
        fault(5, "g0:f<>1");
        fault(4, "g0:f!1");
    }

    static void promise20EveryFieldIsALetterOfItsOwn() {
        for (char name : "fslhwd".toCharArray()) {
            good("g0:" + name + ">1");
        }
        for (char name : "FSLHWDegimrxtvc".toCharArray()) {
            fault(3, "g0:" + name + ">1");
        }
    }

    static void promise20NoSpaces() {
        fault(0, " g0:f>1");
        fault(3, "g0: f>1");
        fault(6, "g0:f>1 ");
    }

    static void promise20APartMissingAtASign() {
        fault(3, "g0:|f>1");
        fault(3, "g0:&f>1");
        fault(7, "g0:f>1|");
        fault(7, "g0:f>1&");
        fault(7, "g0:f>1||f>1");
        fault(7, "g0:f>1&|f>1");
        fault(4, "g0:!");
        fault(4, "g0:!|f>1");
    }

    static void promise20NothingBehindALaw() {
        fault(6, "g0:f>1f>1");
        fault(6, "g0:f>1(f>1)");
        fault(6, "g0:f>1!f>1");
        fault(8, "g0:(f>1)f>1");
        fault(8, "g0:(f>1)0");
    }

    static void promise20BracketsThatAreNotShut() {
        fault(7, "g0:(f>1");
        fault(4, "g0:(");
        fault(12, "g0:((f>1|f>1)".substring(0, 12));
        fault(13, "g0:((f>1|f>1)");
    }

    static void promise20BracketsThatWereNotOpened() {
        fault(3, "g0:)");
        fault(6, "g0:f>1)");
        fault(8, "g0:(f>1))");
        fault(4, "g0:()");
    }

    static void promise20TheTwentyFirstBracket() {
        fault(23, "g0:" + "(".repeat(21) + "f>1" + ")".repeat(21));
    }

    static void promise20TheTwentyFirstNot() {
        fault(23, "g0:" + "!".repeat(21) + "f>1");
    }

    static void promise20TheTwentyFirstOfBoth() {
        fault(23, "g0:" + "!(".repeat(10) + "!f>1" + ")".repeat(10));
        fault(23, "g0:" + "(!".repeat(10) + "(f>1)" + ")".repeat(10));
    }

    static void promise20ANotWithinTwentyBracketsBehindATest() {
        fault(27, "g0:" + "(".repeat(20) + "f>1&!s>1" + ")".repeat(20));
    }

    static void promise20AnEndWithinTwentyBrackets() {
        fault(23, "g0:" + "(".repeat(20));
        fault(45, "g0:" + "(".repeat(20) + "f>1" + ")".repeat(19));
    }

    static void promise20ARowOfBracketsAlone() {
        fault(23, "g0:" + "(".repeat(93));
        fault(23, "g0:" + "!".repeat(93));
    }

    static void promise20TheLastOf96Letters() {
        fault(95, "g0:" + "f>1&".repeat(22) + "f>10x");
        fault(96, "g0:" + "f>10&".repeat(4) + "f>1&".repeat(18) + "!");
    }

    // ---- Promise 21: force

    static void promise21ALawThatIsOtherwiseAnswers1() {
        Scene.full().due(1, x -> x.force(4, false)).due(4, x -> x.status(3)).due(1, x -> x.force(4, true))
            .due(5, x -> x.status(3));
    }

    static void promise21ALawThatIsSoAnswers0() {
        Scene.full().due(0, x -> x.force(0, true)).due(1, x -> x.force(0, false)).due(0, x -> x.force(0, false))
            .due(4, x -> x.status(3));
    }

    static void promise21ALawThatIsNotInForceIsALawStill() {
        Scene.full().due(1, x -> x.force(2, false)).due(5, x -> x.status(2)).refused(-7, x -> x.law(7));
    }

    static void promise21NoLawBelow0() {
        Scene.busy().refusedEach(-1, (x, n) -> x.force(n, true), -1, MIN);
    }

    static void promise21NoLawBeyondTheLast() {
        Scene.busy().refusedEach(-1, (x, n) -> x.force(n, false), 2, 4, MAX);
    }

    static void promise21NoLawBeyond4InAFullCity() {
        Scene.full().refusedEach(-1, (x, n) -> x.force(n, false), 5, 6, MAX);
    }

    static void promise21NoLawAtAll() {
        new Scene().refusedEach(-1, (x, n) -> x.force(n, true), 0, -1);
    }

    // ---- Promise 22: says

    static void promise22NoSuchLawIsNoneAndNoRefusal() {
        Scene.busy().dueEach(NONE, WaterCity::says, -1, 2, MIN, MAX);
        new Scene().dueEach(NONE, WaterCity::says, 0, -1);
    }

    static void promise22TheLastLawIs4() {
        Scene.full().due(0, x -> x.says(4)).due(NONE, x -> x.says(5));
    }

    static void promise22ALawThatIsNotInForceSaysWhatItSays() {
        new Scene().law("g0:d=0").does(x -> x.force(0, false)).due(1, x -> x.says(0));
    }

    static void promise22AskingChangesNothing() {
        Scene.busy().changesNothing(x -> x.says(0)).changesNothing(x -> x.says(9));
    }

    static void promise22BelowAboveAndEqual() {
        Scene s = new Scene().does(x -> x.level(3, 50));
        says(s, 0, "l<50");
        says(s, 1, "l<51");
        says(s, 0, "l>50");
        says(s, 1, "l>49");
        says(s, 1, "l=50");
        says(s, 0, "l=49");
        says(s, 0, "l=51");
    }

    static void promise22Numbers0And999() {
        Scene s = new Scene();
        says(s, 1, "l=0");
        says(s, 0, "l<0");
        says(s, 0, "l>0");
        says(s, 1, "l<999");
        says(s, 0, "l>999");
        says(s, 0, "l=999");
        says(s.does(x -> x.level(0, 300)), 1, "l<999");
    }

    static void promise22NumbersBelow0AreBelow0() {
        Scene s = new Scene();
        for (int c = 0; c < 25; c++) {
            int cell = c;
            s.does(x -> x.level(cell, -1));
        }
        says(s, 1, "l<0");
        says(s, 0, "l=0");
        says(s, 0, "l>0");
    }

    // on a new city t is true and n is not
    private static final String T = "f=0";
    private static final String N = "f=1";

    static void promise22NotTurnsATest() {
        says(new Scene(), 0, "!" + T);
        says(new Scene(), 1, "!" + N);
    }

    static void promise22TwoNotsTurnItBack() {
        says(new Scene(), 1, "!!" + T);
        says(new Scene(), 0, "!!" + N);
        says(new Scene(), 0, "!!!" + T);
    }

    static void promise22TwentyNotsTurnItBack() {
        says(new Scene(), 1, "!".repeat(20) + T);
        says(new Scene(), 0, "!".repeat(19) + T);
    }

    static void promise22AndNeedsBoth() {
        says(new Scene(), 1, T + "&" + T);
        says(new Scene(), 0, T + "&" + N);
        says(new Scene(), 0, N + "&" + T);
        says(new Scene(), 0, N + "&" + N);
    }

    static void promise22OrNeedsOne() {
        says(new Scene(), 1, T + "|" + T);
        says(new Scene(), 1, T + "|" + N);
        says(new Scene(), 1, N + "|" + T);
        says(new Scene(), 0, N + "|" + N);
    }

    static void promise22AndIsWithinOr() {
        says(new Scene(), 1, T + "|" + N + "&" + N);
        says(new Scene(), 1, N + "&" + N + "|" + T);
        says(new Scene(), 0, T + "&" + N + "|" + N + "&" + T);
    }

    static void promise22BracketsComeFirst() {
        says(new Scene(), 0, "(" + T + "|" + N + ")&" + N);
        says(new Scene(), 0, N + "&(" + N + "|" + T + ")");
    }

    static void promise22NotTakesOnePartAlone() {
        says(new Scene(), 1, "!" + T + "|" + T);
        says(new Scene(), 0, "!(" + T + "|" + T + ")");
        says(new Scene(), 0, "!" + N + "&" + N);
        says(new Scene(), 1, "!(" + N + "&" + N + ")");
    }

    static void promise22TheLastOfManyPartsCounts() {
        says(new Scene(), 1, (N + "|").repeat(20) + T);
        says(new Scene(), 0, (N + "|").repeat(20) + N);
        says(new Scene(), 1, (T + "&").repeat(20) + T);
        says(new Scene(), 0, (T + "&").repeat(20) + N);
    }

    static void promise22ManyPartsOpenAtOnce() {
        String open = N + "|" + T + "&(";
        says(new Scene(), 1, open.repeat(9) + T + ")".repeat(9));
        says(new Scene(), 0, open.repeat(9) + N + ")".repeat(9));
    }

    /** A city with a forecast of 16 that is 40 in one quarter, else 0. */
    private static Scene peakIn(int quarter) {
        long[] heights = new long[16];
        heights[quarter] = 40;
        return new Scene().forecast(heights);
    }

    static void promise22FieldFTakesTheQuarterItself() {
        field(peakIn(0), "f", 40);
    }

    static void promise22FieldFTakesTheSevenBehindIt() {
        for (int quarter = 1; quarter <= 7; quarter++) {
            field(peakIn(quarter), "f", 40);
        }
    }

    static void promise22FieldFTakesNoEighthBehindIt() {
        field(peakIn(8), "f", 0);
    }

    static void promise22FieldFTakesNoneAhead() {
        field(peakIn(0).live(1), "f", 0);
        field(peakIn(15), "f", 0);
    }

    static void promise22FieldFGoesOnWithNow() {
        field(peakIn(8).live(1), "f", 40);
        field(peakIn(8).live(8), "f", 40);
        field(peakIn(8).live(9), "f", 0);
    }

    static void promise22FieldFGoesRoundWithTheRow() {
        field(new Scene().forecast(1, 2, 3, 70, 5).live(4), "f", 70);
        field(peakIn(0).live(9), "f", 40);
    }

    static void promise22FieldFBelow0() {
        says(new Scene().forecast(-50, -40, -60), 1, "f<0");
        field(new Scene().forecast(-50, -40, -60).does(x -> x.rule(0, 99)), "f", 59);
    }

    static void promise22FieldFHasMissMore() {
        field(peakIn(3).does(x -> x.rule(0, 9)), "f", 49);
        field(peakIn(3).does(x -> x.rule(0, 99)), "f", 139);
    }

    static void promise22FieldFAtItsGreatest() {
        field(new Scene().forecast(300).does(x -> x.rule(0, 99)), "f", 399);
    }

    static void promise22FieldFWithoutAForecastIsMiss() {
        field(new Scene().sea(77), "f", 0);
        field(new Scene().sea(77).does(x -> x.rule(0, 33)), "f", 33);
    }

    static void promise22FieldFOfWhatIsMissing() {
        field(new Scene().forecast(-32_768, 20), "f", 30);
        field(new Scene().forecast(-32_768, 31), "f", 31);
    }

    static void promise22FieldSIsTheForecastInTheQuarter() {
        field(new Scene().sea(77).forecast(40, 50).live(2), "s", 40);
        field(new Scene().sea(77).forecast(40, 50).live(3), "s", 50);
    }

    static void promise22FieldSHasNoMiss() {
        field(new Scene().forecast(40).does(x -> x.rule(0, 99)), "s", 40);
    }

    static void promise22FieldSOfWhatIsMissing() {
        field(new Scene().forecast(-32_768), "s", 30);
    }

    static void promise22FieldSWithoutAForecastIs0() {
        field(new Scene().sea(77), "s", 0);
    }

    static void promise22FieldLIsTheGreatestLevel() {
        for (int c = 0; c < 25; c++) {
            int cell = c;
            says(new Scene().does(x -> x.level(cell, 7)).does(x -> x.level((cell + 1) % 25, -9)), 1, "l=7");
        }
    }

    static void promise22FieldLIs300AtItsGreatest() {
        field(new Scene().does(x -> x.level(24, 300)), "l", 300);
    }

    static void promise22FieldHIsTheHour() {
        field(new Scene(), "h", 0);
        field(new Scene().live(3), "h", 0);
        field(new Scene().live(4), "h", 1);
        field(new Scene().live(7), "h", 1);
    }

    static void promise22FieldHIs23AtMost() {
        field(new Scene().live(91), "h", 22);
        field(new Scene().live(92), "h", 23);
        field(new Scene().live(95), "h", 23);
        field(new Scene().live(96), "h", 0);
    }

    static void promise22FieldDIsTheDay() {
        field(new Scene().live(95), "d", 0);
        field(new Scene().live(96), "d", 1);
        field(new Scene().live(191), "d", 1);
        field(new Scene().live(192), "d", 2);
    }

    static void promise22FieldsInTheLastQuarter() {
        // 20,000 is 208 days and 32 quarters
        Scene s = Scene.late(0);
        field(s, "d", 208);
        field(s, "h", 8);
    }

    static void promise22FieldWIsHowManyBoatsHaveAGoal() {
        Scene s = new Scene();
        for (int b = 0; b < 6; b++) {
            int boat = b;
            s.does(x -> x.boat(0, 60, 1, 1, 0));
            says(s, 1, "w=" + b);
            s.does(x -> x.goal(boat, 1));
            says(s, 1, "w=" + (b + 1));
        }
        says(s.does(x -> x.goal(0, 0)), 1, "w=5");
    }

    static void promise22FieldWForgetsABoatThatArrived() {
        Scene s = new Scene().does(x -> x.boat(0, 1, 1, 1, 0)).does(x -> x.goal(0, 1));
        says(s, 1, "w=1");
        says(s.live(1), 1, "w=0");
    }
}
