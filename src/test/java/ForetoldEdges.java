/** What the document says of what is foretold, and of the best laws, at its edges: promises 32 and 33. */
final class ForetoldEdges {
    private static final int NO_HEIGHT = 1_000;
    private static final int MIN = Scene.MIN;
    private static final int MAX = Scene.MAX;

    private ForetoldEdges() {
    }

    // ---- Promise 32: foretold

    static void promise32BehindNoQuarterItIsTheLevelNow() {
        Scene.busy().due(7, x -> x.foretold(20, 0)).due(7, x -> x.cell(20, 1));
    }

    static void promise32BehindOneQuarter() {
        new Scene().island(7).does(x -> x.mouth(7)).forecast(100, 0).due(50, x -> x.foretold(7, 1))
            .due(25, x -> x.foretold(7, 2));
    }

    static void promise32BehindTwoHundredQuarters() {
        // in turns of two it comes to 66 and 33
        new Scene().island(7).does(x -> x.mouth(7)).both(100, 0).due(33, x -> x.foretold(7, 200))
            .due(66, x -> x.foretold(7, 199)).live(199).due(66, x -> x.cell(7, 1)).live(1).due(33, x -> x.cell(7, 1));
    }

    static void promise32QuartersBelow0OrAbove200AreAThousandAndNoRefusal() {
        Scene.busy().dueEach(NO_HEIGHT, (x, n) -> x.foretold(0, n), -1, 201, MIN, MAX);
    }

    static void promise32NoSuchCellIsAThousandAndNoRefusal() {
        Scene.busy().dueEach(NO_HEIGHT, (x, n) -> x.foretold(n, 1), -1, 25, MIN, MAX)
            .due(NO_HEIGHT, x -> x.foretold(25, 201));
    }

    static void promise32TheFirstAndTheLastCell() {
        new Scene().does(x -> x.level(0, 40)).does(x -> x.level(24, 80)).due(20, x -> x.foretold(0, 1))
            .due(40, x -> x.foretold(24, 1));
    }

    static void promise32TheForecastIsInPlaceOfTheSea() {
        new Scene().island(7).does(x -> x.mouth(7)).sea(100).due(0, x -> x.foretold(7, 1)).forecast(-100)
            .due(-50, x -> x.foretold(7, 1)).live(1).due(50, x -> x.cell(7, 1));
    }

    static void promise32QuartersGoOnFromNow() {
        new Scene().island(7).does(x -> x.mouth(7)).forecast(0, 0, 100).live(2).due(50, x -> x.foretold(7, 1));
    }

    static void promise32WhatWasForetoldComes() {
        Scene s = Scene.busy().does(x -> x.sea(2, false));
        for (int c = 0; c < 25; c += 6) {
            int cell = c;
            long[] told = new long[1];
            s.does(x -> x.restore()).does(x -> x.sea(2, false)).does(x -> told[0] = x.foretold(cell, 150)).live(150);
            s.due(told[0], x -> x.cell(cell, 1));
        }
    }

    static void promise32LawsCountInWhatIsForetold() {
        new Scene().island(7).does(x -> x.mouth(7)).forecast(100).law("g0:h=0").due(0, x -> x.foretold(7, 4))
            .due(50, x -> x.foretold(7, 5)).does(x -> x.force(0, false)).due(50, x -> x.foretold(7, 1));
    }

    static void promise32MissCountsInLawsAsForetold() {
        new Scene().island(7).does(x -> x.mouth(7)).forecast(40).law("g0:f>50").due(20, x -> x.foretold(7, 1))
            .does(x -> x.rule(0, 10)).due(20, x -> x.foretold(7, 1)).does(x -> x.rule(0, 11))
            .due(0, x -> x.foretold(7, 1));
    }

    static void promise32BoatsThatArriveCountInWhatIsForetold() {
        new Scene().pair(0, 1).island(24).does(x -> x.mouth(24)).forecast(100).law("g0:w>0")
            .does(x -> x.boat(0, 1, 1, 1, 0)).does(x -> x.goal(0, 1)).due(0, x -> x.foretold(24, 1))
            .due(50, x -> x.foretold(24, 2)).due(0, x -> x.sails(0, 0));
    }

    static void promise32ShutGatesStayShut() {
        new Scene().island(7).does(x -> x.mouth(7)).does(x -> x.gate(0, true)).forecast(100)
            .due(0, x -> x.foretold(7, 9));
    }

    static void promise32BeyondTheLastQuarter() {
        Scene.late(0).island(7).does(x -> x.mouth(7)).forecast(100).due(50, x -> x.foretold(7, 1))
            .due(99, x -> x.foretold(7, 200));
    }

    static void promise32AskingChangesNothing() {
        Scene.busy().changesNothing(x -> x.foretold(0, 200)).changesNothing(x -> x.foretold(25, 201));
    }

    // ---- Promise 33: best

    /** Houses in 0 and 24, each by a mouth, that are WET in every quarter in which the sea comes. */
    private static Scene twoHouses() {
        return new Scene().island(0).island(24).does(x -> x.mouth(0)).does(x -> x.mouth(24))
            .does(x -> x.house(0, 0, 5, 0, 0)).does(x -> x.house(2, 24, 5, 0, 0)).both(100);
    }

    static void promise33WithoutLawsTheSetIs0() {
        twoHouses().due(0, x -> x.best(3, 0)).due(60, x -> x.best(3, 1));
        new Scene().due(0, x -> x.best(48, 0)).due(0, x -> x.best(48, 1));
    }

    static void promise33OneQuarterIsTheLeast() {
        twoHouses().due(0, x -> x.best(1, 0)).due(20, x -> x.best(1, 1));
    }

    static void promise33FortyEightQuartersAreTheMost() {
        twoHouses().due(0, x -> x.best(48, 0)).due(960, x -> x.best(48, 1));
    }

    static void promise33QuartersBelow1OrAbove48AreWrong() {
        Scene.busy().refusedEach(-6, (x, n) -> x.best(n, 0), 0, -1, 49, MIN, MAX)
            .refusedEach(-6, (x, n) -> x.best(n, 1), 0, 49);
    }

    static void promise33AnotherWhatIsWrong() {
        Scene.busy().refusedEach(-6, (x, n) -> x.best(1, n), -1, 2, MIN, MAX).refused(-6, x -> x.best(0, 2));
    }

    static void promise33LawsThatLessenAreInTheSet() {
        twoHouses().law("g1:f>50").due(1, x -> x.best(3, 0)).due(30, x -> x.best(3, 1)).law("g0:f>50")
            .due(3, x -> x.best(3, 0)).due(0, x -> x.best(3, 1));
    }

    static void promise33LawsThatDoNotLessenAreNot() {
        twoHouses().law("g1:f>200").law("g1:f>50").law("g2:f>50").due(2, x -> x.best(3, 0)).due(30, x -> x.best(3, 1));
    }

    static void promise33OfSeveralTheLeastSet() {
        twoHouses().law("g0:f>50").law("g0:f>60").law("g1:f>70").law("g1:f>80").due(5, x -> x.best(3, 0))
            .due(0, x -> x.best(3, 1));
    }

    static void promise33AllFiveLaws() {
        // each shuts in a fifth of the time
        twoHouses().law("g0:h=0").law("g0:h=1").law("g0:h=2").law("g0:h=3").law("g0:h=4").due(31, x -> x.best(20, 0))
            .due(200, x -> x.best(20, 1)).due(15, x -> x.best(16, 0)).due(1, x -> x.best(4, 0));
    }

    static void promise33TheFifthLawAlone() {
        twoHouses().law("g0:h=9").does(x -> x.law(7)).does(x -> x.law(7)).does(x -> x.law(7)).law("g0:h=0")
            .due(16, x -> x.best(1, 0)).due(10, x -> x.best(1, 1));
    }

    static void promise33SetsAreInPlaceOfWhatIsInForce() {
        twoHouses().law("g0:f>50").law("g1:f>50").does(x -> x.force(0, false)).does(x -> x.force(1, false))
            .due(3, x -> x.best(3, 0)).due(0, x -> x.best(3, 1)).due(0, x -> x.status(3));
        // a law that is in force now does harm, and is left out
        twoHouses().does(x -> x.gate(0, true)).law("g0:f<50").due(0, x -> x.best(3, 0)).due(30, x -> x.best(3, 1))
            .due(1, x -> x.status(3));
    }

    static void promise33HousesOfEveryKindAre10AQuarter() {
        for (int n = 0; n < 3; n++) {
            int kind = n;
            new Scene().island(7).does(x -> x.house(kind, 7, 0, 0, 99)).does(x -> x.level(7, 1))
            .due(50, x -> x.best(5, 1));
        }
    }

    static void promise33EachTimeABoatWaitedIs1() {
        new Scene().island(0).does(x -> x.boat(0, 1, 1, 1, 0)).does(x -> x.goal(0, 1)).does(x -> x.boat(0, 1, 1, 1, 0))
            .does(x -> x.goal(1, 2)).due(2, x -> x.best(1, 1)).due(96, x -> x.best(48, 1));
    }

    static void promise33WhatWasAheadDoesNotCount() {
        twoHouses().live(9).due(20, x -> x.best(1, 1));
        new Scene().island(0).does(x -> x.boat(0, 1, 1, 1, 0)).does(x -> x.goal(0, 1)).live(9)
            .due(1, x -> x.best(1, 1));
    }

    static void promise33InAFullCityTheLastHouseAndTheLastBoatCount() {
        Scene.full().does(x -> x.level(22, 300)).due(10, x -> x.best(1, 1)).island(5).due(11, x -> x.best(1, 1));
    }

    static void promise33HousesThatTheImageTookBackDoNotCount() {
        new Scene().island(7).does(x -> x.image()).does(x -> x.house(0, 7, 0, 0, 0)).does(x -> x.level(7, 1)).live(5)
            .due(10, x -> x.best(1, 1)).does(x -> x.restore()).due(0, x -> x.best(1, 1));
    }

    static void promise33BoatsThatTheImageTookBackDoNotCount() {
        new Scene().island(7).does(x -> x.image()).does(x -> x.boat(7, 1, 1, 1, 0)).does(x -> x.goal(0, 8)).live(5)
            .due(1, x -> x.best(1, 1)).does(x -> x.restore()).due(0, x -> x.best(1, 1));
    }

    static void promise33WaitingIsWeighedAgainstWetHouses() {
        // the boat needs the tide: with it the house is wet and the boat gone, without it the boat waits
        Scene s = new Scene().pair(0, 1).does(x -> x.mouth(0)).both(40).law("g0:f>30").does(x -> x.boat(0, 26, 1, 1, 0))
            .does(x -> x.goal(0, 1));
        s.due(0, x -> x.best(3, 0)).due(1, x -> x.best(3, 1)).does(x -> x.house(0, 0, 8, 0, 0))
            .due(1, x -> x.best(3, 0))
            .due(3, x -> x.best(3, 1));
    }

    static void promise33BestGoesByTheForecast() {
        new Scene().island(0).does(x -> x.mouth(0)).does(x -> x.house(0, 0, 5, 0, 0)).forecast(100).sea(0)
            .law("g0:s>50").due(1, x -> x.best(2, 0)).due(0, x -> x.best(2, 1)).forecast(0).sea(100)
            .due(0, x -> x.best(2, 0)).due(0, x -> x.best(2, 1));
    }

    static void promise33WhatSinksInTheseQuartersCounts() {
        Scene s = new Scene().island(7).does(x -> x.house(0, 7, 3, 1, 0)).does(x -> x.level(7, 3)).live(95);
        s.due(0, x -> x.best(1, 1)).due(10, x -> x.best(2, 1)).due(470, x -> x.best(48, 1)).due(0, x -> x.about(0, 3));
    }

    static void promise33MudInTheseQuartersCounts() {
        Scene s = new Scene().does(x -> x.rule(2, 9)).does(x -> x.boat(0, 20, 1, 1, 0)).does(x -> x.image()).live(95);
        s.does(x -> x.goal(0, 2)).due(0, x -> x.best(1, 1)).due(1, x -> x.best(2, 1)).due(47, x -> x.best(48, 1))
            .due(20, x -> x.cell(0, 0));
    }

    static void promise33QuartersBeyondTheLast() {
        Scene.late(0).island(7).does(x -> x.house(0, 7, 0, 0, 0)).does(x -> x.level(7, 1)).due(480, x -> x.best(48, 1));
    }

    static void promise33AskingChangesNothing() {
        Scene.busy().changesNothing(x -> x.best(48, 0)).changesNothing(x -> x.best(48, 1));
    }
}
