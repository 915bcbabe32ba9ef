/** What the document says of how a quarter is lived, at its edges: promise 31. */
final class QuarterEdges {
    private static final int NONE = Scene.NONE;
    private static final int MIN = Scene.MIN;
    private static final int MAX = Scene.MAX;

    private QuarterEdges() {
    }

    // ---- How many quarters

    static void promise31AnswersNow() {
        new Scene().due(1, x -> x.quarters(1)).due(8, x -> x.quarters(7)).due(8, x -> x.status(7));
    }

    static void promise31OneQuarterIsTheLeast() {
        new Scene().due(1, x -> x.quarters(1)).due(1, x -> x.status(7));
    }

    static void promise31NoneOrLessIsWrong() {
        Scene.busy().refusedEach(-6, WaterCity::quarters, 0, -1, MIN);
    }

    static void promise31TwoHundredAreTheMost() {
        new Scene().due(200, x -> x.quarters(200)).due(200, x -> x.status(7));
    }

    static void promise31MoreThan200AreWrong() {
        Scene.busy().refusedEach(-6, WaterCity::quarters, 201, MAX);
    }

    static void promise31TheLastQuarterIs20000() {
        Scene.late(1).due(20_000, x -> x.quarters(1)).due(20_000, x -> x.status(7));
    }

    static void promise31SeveralQuartersUpToTheLast() {
        Scene.late(200).due(20_000, x -> x.quarters(200));
    }

    static void promise31OneBeyondTheLastIsRoom() {
        Scene.late(1).refused(-7, x -> x.quarters(2)).due(19_999, x -> x.status(7));
    }

    static void promise31AnyBeyondTheLastAreRoomAndNoneIsLived() {
        Scene.late(199).refused(-7, x -> x.quarters(200)).due(19_801, x -> x.status(7));
    }

    static void promise31OneInTheLastIsRoom() {
        Scene.late(0).refused(-7, x -> x.quarters(1)).due(20_000, x -> x.status(7));
    }

    static void promise31WrongComesAheadOfRoom() {
        Scene.late(0).refused(-6, x -> x.quarters(201)).refused(-6, x -> x.quarters(0))
            .refused(-6, x -> x.quarters(MAX));
    }

    static void promise31QuartersAtOnceAreQuartersOneByOne() {
        Scene s = Scene.busy();
        Scene t = Scene.busy().live(97);
        for (int q = 0; q < 97; q++) {
            s.live(1);
        }
        for (int c = 0; c < 25; c++) {
            int cell = c;
            for (int what = 0; what < 5; what++) {
                int w = what;
                long[] answer = new long[1];
                t.does(x -> answer[0] = x.cell(cell, w));
                s.due(answer[0], x -> x.cell(cell, w));
            }
        }
    }

    // ---- 1 LAWS

    private static Scene mouthsAt0And1() {
        return new Scene().island(0).island(1).does(x -> x.mouth(0)).does(x -> x.mouth(1)).sea(100);
    }

    static void promise31ALawThatHoldsShutsItsMouth() {
        mouthsAt0And1().law("g1:h=0").live(1).due(1, x -> x.status(1)).due(50, x -> x.cell(0, 1))
            .due(0, x -> x.cell(1, 1)).due(0, x -> x.gate(1, true));
    }

    static void promise31ALawThatDoesNotHoldOpensItsMouth() {
        mouthsAt0And1().law("g1:h=1").does(x -> x.gate(0, true)).does(x -> x.gate(1, true)).live(1)
            .due(1, x -> x.status(1)).due(0, x -> x.cell(0, 1)).due(50, x -> x.cell(1, 1));
    }

    static void promise31OneOfSeveralLawsThatHoldsIsEnough() {
        mouthsAt0And1().law("g0:h=0").law("g0:h=1").live(1).due(1, x -> x.status(1));
        mouthsAt0And1().law("g0:h=1").law("g0:h=0").live(1).due(1, x -> x.status(1));
    }

    static void promise31NoneOfSeveralLawsThatHoldsOpens() {
        mouthsAt0And1().does(x -> x.gate(0, true)).law("g0:h=1").law("g0:h=2").live(1).due(0, x -> x.status(1));
    }

    static void promise31ALawThatIsNotInForceShutsNothing() {
        mouthsAt0And1().law("g0:h=0").does(x -> x.force(0, false)).live(1).due(0, x -> x.status(1));
    }

    static void promise31ALawThatIsNotInForceOpensNothing() {
        mouthsAt0And1().law("g0:h=1").does(x -> x.force(0, false)).does(x -> x.gate(0, true)).live(1)
            .due(1, x -> x.status(1));
    }

    static void promise31ALawInForceAgainCountsAgain() {
        mouthsAt0And1().law("g0:h=0").does(x -> x.force(0, false)).live(1).does(x -> x.force(0, true)).live(1)
            .due(1, x -> x.status(1));
    }

    static void promise31AMouthForWhichThereIsNoLawStays() {
        mouthsAt0And1().law("g2:h=0").does(x -> x.gate(1, true)).live(1).due(1, x -> x.status(1))
            .due(0, x -> x.cell(1, 1)).due(50, x -> x.cell(0, 1));
    }

    static void promise31ALawForAMouthThatComesLater() {
        mouthsAt0And1().law("g2:h=0").live(1).due(0, x -> x.status(1)).due(2, x -> x.mouth(2)).due(0, x -> x.status(1))
            .live(1).due(1, x -> x.status(1)).due(0, x -> x.cell(2, 1));
    }

    static void promise31TheFifthLawCounts() {
        Scene s = mouthsAt0And1().law("g0:h=9");
        for (int k = 1; k < 4; k++) {
            s.does(x -> x.law(7));
        }
        s.law("g0:h=0").due(5, x -> x.status(2)).live(1).due(1, x -> x.status(1));
    }

    static void promise31LawsGoByTheHourOfTheQuarterLived() {
        mouthsAt0And1().law("g0:h=1").live(4).due(0, x -> x.status(1)).live(1).due(1, x -> x.status(1)).live(3)
            .due(1, x -> x.status(1)).live(1).due(0, x -> x.status(1));
    }

    static void promise31LawsGoByTheDayOfTheQuarterLived() {
        mouthsAt0And1().law("g0:d=1").live(96).due(0, x -> x.status(1)).live(1).due(1, x -> x.status(1)).live(95)
            .due(1, x -> x.status(1)).live(1).due(0, x -> x.status(1));
    }

    static void promise31LawsGoByLevelsAheadOfTheSea() {
        mouthsAt0And1().law("g1:l>49").live(1).due(0, x -> x.status(1)).live(1).due(1, x -> x.status(1));
    }

    static void promise31LawsGoByBoatsAheadOfTheirSteps() {
        mouthsAt0And1().does(x -> x.boat(12, 1, 1, 1, 0)).does(x -> x.goal(0, 13)).law("g1:w=1").live(1)
            .due(1, x -> x.status(1)).live(1).due(0, x -> x.status(1));
    }

    static void promise31LawsGoByTheForecastOfTheQuarterLived() {
        mouthsAt0And1().forecast(0, 60).law("g1:s>50").live(1).due(0, x -> x.status(1)).live(1)
            .due(1, x -> x.status(1));
    }

    // ---- 2 MOUTHS

    private static Scene oneMouth() {
        return new Scene().island(7).does(x -> x.mouth(7));
    }

    static void promise31HalfOfTheSeaComes() {
        oneMouth().sea(100).live(1).due(50, x -> x.cell(7, 1)).live(1).due(75, x -> x.cell(7, 1));
    }

    static void promise31HalfIsCutTowards0FromBelow() {
        oneMouth().sea(1).live(1).due(0, x -> x.cell(7, 1)).sea(3).live(1).due(1, x -> x.cell(7, 1));
    }

    static void promise31HalfIsCutTowards0FromAbove() {
        oneMouth().sea(-1).live(1).due(0, x -> x.cell(7, 1)).sea(-3).live(1).due(-1, x -> x.cell(7, 1));
    }

    static void promise31TheSeaLessTheLevelIsHalved() {
        oneMouth().does(x -> x.level(7, 40)).sea(31).live(1).due(36, x -> x.cell(7, 1))
            .does(x -> x.level(7, -4)).live(1).due(13, x -> x.cell(7, 1));
    }

    static void promise31ASeaAsHighAsTheLevelBringsNothing() {
        oneMouth().does(x -> x.level(7, 31)).sea(31).live(1).due(31, x -> x.cell(7, 1)).due(31, x -> x.status(18));
    }

    static void promise31WhatComesCame() {
        oneMouth().sea(101).live(1).due(50, x -> x.status(18));
    }

    static void promise31WhatGoesCameToo() {
        oneMouth().sea(-101).live(1).due(-50, x -> x.status(18)).due(-50, x -> x.status(10));
    }

    static void promise31AShutGateLetsNothingCome() {
        oneMouth().does(x -> x.gate(0, true)).sea(100).live(1).due(0, x -> x.cell(7, 1)).due(0, x -> x.status(18));
    }

    static void promise31WithoutAMouthNothingComes() {
        new Scene().sea(100).live(9).due(0, x -> x.status(10)).due(0, x -> x.status(18));
    }

    static void promise31ThreeMouthsBringWhatCame() {
        new Scene().island(0).island(12).island(24).does(x -> x.mouth(24)).does(x -> x.mouth(0))
            .does(x -> x.mouth(12)).sea(100).does(x -> x.level(12, 50)).live(1).due(50, x -> x.cell(0, 1))
            .due(75, x -> x.cell(12, 1)).due(50, x -> x.cell(24, 1)).due(175, x -> x.status(18));
    }

    static void promise31TheSeaAndNotTheForecastComes() {
        oneMouth().sea(100).forecast(-200).live(1).due(50, x -> x.cell(7, 1));
    }

    static void promise31TheSeaOfTheQuarterComes() {
        oneMouth().sea(100, 0, -60).live(1).due(50, x -> x.cell(7, 1)).live(1).due(25, x -> x.cell(7, 1)).live(1)
            .due(-17, x -> x.cell(7, 1)).live(1).due(41, x -> x.cell(7, 1));
    }

    static void promise31WhatIsMissingInTheSeaIs30() {
        oneMouth().sea(-32_768).live(1).due(15, x -> x.cell(7, 1));
    }

    static void promise31TheSeaAtItsEnds() {
        oneMouth().does(x -> x.level(7, -300)).sea(300).live(1).due(0, x -> x.cell(7, 1)).due(0, x -> x.status(18))
            .does(x -> x.level(7, 300)).sea(-300).live(1).due(0, x -> x.cell(7, 1)).due(0, x -> x.status(18));
    }

    // ---- 3 FLOW

    private static Scene levels(int first, int second) {
        return new Scene().pair(7, 8).does(x -> x.level(7, first)).does(x -> x.level(8, second)).live(1);
    }

    static void promise31ADifferenceOf3FlowsNot() {
        levels(3, 0).due(3, x -> x.cell(7, 1)).due(0, x -> x.cell(8, 1)).due(0, x -> x.cell(7, 3))
            .due(0, x -> x.cell(8, 3));
    }

    static void promise31ADifferenceOf4FlowsBy1() {
        levels(4, 0).due(3, x -> x.cell(7, 1)).due(1, x -> x.cell(8, 1));
    }

    static void promise31ADifferenceOf7FlowsBy1() {
        levels(7, 0).due(6, x -> x.cell(7, 1)).due(1, x -> x.cell(8, 1));
    }

    static void promise31ADifferenceOf8FlowsBy2() {
        levels(8, 0).due(6, x -> x.cell(7, 1)).due(2, x -> x.cell(8, 1));
    }

    static void promise31ItFlowsTheOtherWayToo() {
        levels(0, 3).due(0, x -> x.cell(7, 1)).due(3, x -> x.cell(8, 1));
        levels(0, 7).due(1, x -> x.cell(7, 1)).due(6, x -> x.cell(8, 1));
    }

    static void promise31LevelsBelow0Flow() {
        levels(-3, 0).due(-3, x -> x.cell(7, 1)).due(0, x -> x.cell(8, 1));
        levels(-7, 0).due(-6, x -> x.cell(7, 1)).due(-1, x -> x.cell(8, 1));
        levels(-4, -8).due(-5, x -> x.cell(7, 1)).due(-7, x -> x.cell(8, 1));
    }

    static void promise31TheGreatestDifferenceFlows() {
        levels(300, -300).due(150, x -> x.cell(7, 1)).due(-150, x -> x.cell(8, 1)).due(150, x -> x.cell(7, 3));
    }

    static void promise31LevelsThatAreEvenStay() {
        levels(9, 9).due(9, x -> x.cell(7, 1)).due(9, x -> x.cell(8, 1)).due(0, x -> x.cell(7, 3));
    }

    static void promise31ItRanInBothCells() {
        levels(9, 0).due(2, x -> x.cell(7, 3)).due(2, x -> x.cell(8, 3));
        levels(0, 9).due(2, x -> x.cell(7, 3)).due(2, x -> x.cell(8, 3));
    }

    static void promise31AClosedWayLetsNothingFlow() {
        new Scene().pair(7, 8).does(x -> x.close(7, 8, true)).does(x -> x.level(7, 300)).live(1)
            .due(300, x -> x.cell(7, 1)).due(0, x -> x.cell(8, 1)).due(0, x -> x.cell(7, 3));
    }

    static void promise31ANarrowWayWithABridgeLetsItFlow() {
        new Scene().pair(7, 8).does(x -> x.narrow(7, 8, true)).does(x -> x.bridge(7, 8, 0)).does(x -> x.level(7, 40))
            .live(1).due(30, x -> x.cell(7, 1)).due(10, x -> x.cell(8, 1));
    }

    static void promise31EveryWayFlowsAsLevelsWereAhead() {
        // 7 gives 5 to each of its four, and none of them flows on in this quarter
        Scene s = new Scene().does(x -> x.level(7, 20)).live(1).due(0, x -> x.cell(7, 1)).due(20, x -> x.cell(7, 3));
        s.dueEach(5, (x, n) -> x.cell(n, 1), 2, 6, 8, 12).dueEach(5, (x, n) -> x.cell(n, 3), 2, 6, 8, 12);
        s.dueEach(0, (x, n) -> x.cell(n, 1), 1, 3, 11, 13, 17).due(20, x -> x.status(10));
    }

    static void promise31ACornerHasTwoWays() {
        new Scene().does(x -> x.level(0, 40)).does(x -> x.level(24, 80)).live(1).due(20, x -> x.cell(0, 1))
            .due(10, x -> x.cell(1, 1)).due(10, x -> x.cell(5, 1)).due(40, x -> x.cell(24, 1))
            .due(20, x -> x.cell(23, 1)).due(20, x -> x.cell(19, 1));
    }

    static void promise31TheEndOfARowFlowsNotToTheNextRow() {
        new Scene().does(x -> x.level(4, 40)).does(x -> x.level(20, 40)).live(1).due(0, x -> x.cell(5, 1))
            .due(0, x -> x.cell(19, 1)).due(10, x -> x.cell(3, 1)).due(10, x -> x.cell(9, 1))
            .due(10, x -> x.cell(15, 1)).due(10, x -> x.cell(21, 1));
    }

    static void promise31TheSeaThatCameFlowsInItsQuarter() {
        new Scene().pair(7, 8).does(x -> x.mouth(7)).sea(80).live(1).due(30, x -> x.cell(7, 1))
            .due(10, x -> x.cell(8, 1));
    }

    static void promise31FlowBringsNothing() {
        levels(40, 0).due(40, x -> x.status(18)).due(40, x -> x.status(10));
    }

    // ---- 4 BOATS

    static void promise31ABoatMakesItsStep() {
        new Scene().does(x -> x.boat(0, 20, 1, 1, 0)).does(x -> x.goal(0, 2)).live(1).due(1, x -> x.sails(0, 0))
            .due(2, x -> x.sails(0, 1)).due(1, x -> x.sails(0, 5)).due(0, x -> x.sails(0, 2))
            .due(0, x -> x.sails(0, 3));
    }

    static void promise31AtItsGoalItArrivedAndHasNone() {
        new Scene().does(x -> x.boat(0, 20, 1, 1, 0)).does(x -> x.goal(0, 1)).live(1).due(1, x -> x.sails(0, 0))
            .due(NONE, x -> x.sails(0, 1)).due(1, x -> x.sails(0, 3)).due(0, x -> x.status(6)).live(1)
            .due(1, x -> x.sails(0, 3)).due(0, x -> x.sails(0, 2)).due(1, x -> x.sails(0, 5));
    }

    static void promise31WithoutAStepItWaited() {
        new Scene().island(0).does(x -> x.boat(0, 20, 1, 1, 0)).does(x -> x.goal(0, 1)).live(3)
            .due(3, x -> x.sails(0, 2)).due(0, x -> x.sails(0, 0)).due(0, x -> x.sails(0, 5))
            .due(1, x -> x.sails(0, 1));
    }

    static void promise31WithoutAGoalItDoesNotWait() {
        new Scene().island(0).does(x -> x.boat(0, 20, 1, 1, 0)).live(3).due(0, x -> x.sails(0, 2));
    }

    static void promise31AStepGoesByLevelsBehindTheFlow() {
        // 4 flows to 3: too little then for 24
        new Scene().pair(0, 1).does(x -> x.level(0, 4)).does(x -> x.depth(1, 60)).does(x -> x.boat(0, 24, 1, 1, 0))
            .does(x -> x.goal(0, 1)).due(1, x -> x.stepOf(0)).live(1).due(1, x -> x.sails(0, 2));
        new Scene().pair(0, 1).does(x -> x.level(1, 4)).does(x -> x.depth(1, 60)).does(x -> x.boat(0, 21, 1, 1, 0))
            .does(x -> x.goal(0, 1)).due(NONE, x -> x.stepOf(0)).live(1).due(1, x -> x.sails(0, 3));
    }

    private static Scene narrowWay(int firstRank, int secondRank) {
        return new Scene().does(x -> x.narrow(0, 1, true)).does(x -> x.boat(0, 1, 1, 1, firstRank))
            .does(x -> x.boat(0, 1, 1, 1, secondRank)).does(x -> x.goal(0, 1)).does(x -> x.goal(1, 1)).live(1);
    }

    static void promise31TheGreatestRankGoesFirst() {
        narrowWay(0, 9).due(0, x -> x.sails(0, 0)).due(1, x -> x.sails(0, 2)).due(1, x -> x.sails(1, 0));
        narrowWay(4, 5).due(0, x -> x.sails(0, 0)).due(1, x -> x.sails(1, 0));
        narrowWay(9, 0).due(1, x -> x.sails(0, 0)).due(0, x -> x.sails(1, 0)).due(1, x -> x.sails(1, 2));
    }

    static void promise31OfOneRankTheLeastNumberGoesFirst() {
        narrowWay(0, 0).due(1, x -> x.sails(0, 0)).due(0, x -> x.sails(1, 0)).due(1, x -> x.sails(1, 2));
        narrowWay(9, 9).due(1, x -> x.sails(0, 0)).due(0, x -> x.sails(1, 0));
    }

    static void promise31ANarrowWayIsFreeInTheNextQuarter() {
        narrowWay(0, 0).live(1).due(1, x -> x.sails(1, 0)).due(1, x -> x.sails(1, 2)).due(1, x -> x.sails(1, 3));
    }

    static void promise31ANarrowWayTakesOneOfBothDirections() {
        new Scene().does(x -> x.narrow(0, 1, true)).does(x -> x.boat(0, 1, 1, 1, 0)).does(x -> x.boat(1, 1, 1, 1, 0))
            .does(x -> x.goal(0, 1)).does(x -> x.goal(1, 0)).live(1).due(1, x -> x.sails(0, 0))
            .due(1, x -> x.sails(1, 0)).due(1, x -> x.sails(1, 2));
    }

    static void promise31AWideWayTakesAll() {
        Scene s = Scene.full();
        for (int b = 0; b < 6; b++) {
            int boat = b;
            s.does(x -> x.goal(boat, boat == 0 ? 1 : 0));
        }
        s.live(9).dueEach(1, (x, n) -> x.sails(n, 3), 0, 1, 2, 3, 4, 5)
            .dueEach(0, (x, n) -> x.sails(n, 2), 0, 1, 2, 3, 4, 5);
    }

    static void promise31ABoatThatWaitedWentOverNoNarrowWay() {
        // the first has no STEP, for 3 is too shallow; so the second is the first over the way
        new Scene().does(x -> x.narrow(1, 2, true)).does(x -> x.depth(3, 10)).does(x -> x.boat(1, 20, 1, 1, 9))
            .does(x -> x.boat(1, 5, 1, 1, 0)).does(x -> x.goal(0, 3)).does(x -> x.goal(1, 3)).live(1)
            .due(1, x -> x.sails(0, 2)).due(2, x -> x.sails(1, 0));
    }

    static void promise31ABoatAtANarrowWayLooksForNoOther() {
        new Scene().does(x -> x.narrow(0, 1, true)).does(x -> x.boat(0, 1, 1, 1, 9)).does(x -> x.boat(0, 1, 1, 1, 0))
            .does(x -> x.goal(0, 6)).does(x -> x.goal(1, 6)).live(1).due(0, x -> x.sails(1, 0))
            .due(1, x -> x.sails(1, 2));
    }

    static void promise31ABoatThatWentBackOverANarrowWayHoldsIt() {
        // what counts is that a boat went over it, not from where
        new Scene().does(x -> x.narrow(0, 1, true)).does(x -> x.boat(1, 1, 1, 1, 9)).does(x -> x.boat(0, 1, 1, 1, 5))
            .does(x -> x.boat(1, 1, 1, 1, 0)).does(x -> x.goal(0, 0)).does(x -> x.goal(1, 1)).does(x -> x.goal(2, 0))
            .live(1).due(0, x -> x.sails(0, 0)).due(1, x -> x.sails(1, 2)).due(1, x -> x.sails(2, 2)).live(1)
            .due(1, x -> x.sails(1, 0)).due(2, x -> x.sails(2, 2)).live(1).due(0, x -> x.sails(2, 0));
    }

    private static Scene sailed(int speed, int limit) {
        return new Scene().does(x -> x.rule(1, limit)).does(x -> x.boat(0, 1, 1, speed, 0)).does(x -> x.goal(0, 1))
            .live(1);
    }

    static void promise31ItWearsTheWallBySpeedTimesSpeedBy4Cut() {
        int[] due = {0, 0, 1, 2, 4, 6, 9, 12, 16, 20};
        for (int speed = 1; speed <= 9; speed++) {
            int worn = due[speed];
            sailed(speed, 9).due(worn, x -> x.sails(0, 4)).due(1000 - worn, x -> x.cell(1, 2))
                .due(1000, x -> x.cell(0, 2));
        }
    }

    static void promise31TheLimitHoldsSpeedsDown() {
        sailed(9, 8).due(16, x -> x.sails(0, 4));
        sailed(9, 1).due(0, x -> x.sails(0, 4));
        sailed(3, 2).due(1, x -> x.sails(0, 4));
        sailed(2, 3).due(1, x -> x.sails(0, 4));
        sailed(2, 2).due(1, x -> x.sails(0, 4));
    }

    static void promise31ABoatThatWaitedWearsNothing() {
        new Scene().island(0).does(x -> x.boat(0, 1, 1, 9, 0)).does(x -> x.goal(0, 1)).live(3)
            .due(0, x -> x.sails(0, 4))
            .due(1000, x -> x.cell(0, 2)).due(1000, x -> x.cell(1, 2));
    }

    /** Five boats that wear 20 and one that wears 9 come to 1 (and to 0) nine times: 981 of each wall are worn. */
    private static Scene wornWalls() {
        Scene s = new Scene();
        for (int b = 0; b < 6; b++) {
            int speed = b < 5 ? 9 : 6;
            s.does(x -> x.boat(0, 1, 1, speed, 0));
        }
        for (int trip = 0; trip < 18; trip++) {
            trip(s, trip % 2 == 0 ? 1 : 0);
        }
        return s;
    }

    private static Scene trip(Scene s, int to) {
        for (int b = 0; b < 6; b++) {
            int boat = b;
            s.does(x -> x.goal(boat, to));
        }
        return s.live(1);
    }

    static void promise31AWallIsWornAsFarAsThereIsSome() {
        Scene s = wornWalls().due(19, x -> x.cell(1, 2)).due(19, x -> x.cell(0, 2)).due(360, x -> x.sails(0, 4))
            .due(162, x -> x.sails(5, 4));
        trip(s, 1).due(0, x -> x.cell(1, 2)).due(379, x -> x.sails(0, 4)).due(360, x -> x.sails(1, 4))
            .due(162, x -> x.sails(5, 4));
    }

    static void promise31AWallOf0StaysAt0() {
        Scene s = wornWalls();
        trip(trip(trip(s, 1), 0), 1).due(0, x -> x.cell(1, 2)).due(398, x -> x.sails(0, 4)).due(21, x -> x.sails(0, 5));
    }

    // ---- 5 HOUSES

    private static Scene houseAt(int kind, int floor, int level) {
        return new Scene().island(7).does(x -> x.house(kind, 7, floor, 0, 9)).does(x -> x.level(7, level)).live(1);
    }

    static void promise31ALevelAtTheFloorIsNotWet() {
        houseAt(0, 10, 10).due(0, x -> x.about(0, 7)).due(0, x -> x.about(0, 4));
        houseAt(0, 0, 0).due(0, x -> x.about(0, 7)).due(0, x -> x.about(0, 4));
    }

    static void promise31ALevelOneAboveTheFloorIsWet() {
        houseAt(0, 10, 11).due(1, x -> x.about(0, 7)).due(1, x -> x.about(0, 4));
        houseAt(0, 0, 1).due(1, x -> x.about(0, 7));
    }

    static void promise31ALevelBelow0IsNotWet() {
        houseAt(0, 0, -300).due(0, x -> x.about(0, 7));
    }

    static void promise31TheHighestFloorIsWetNever() {
        houseAt(0, 200, 300).due(1, x -> x.about(0, 7)).due(250, x -> x.raise(0, 50)).due(299, x -> x.raise(0, 49))
            .live(1).due(1, x -> x.about(0, 7)).due(300, x -> x.raise(0, 1)).live(1).due(0, x -> x.about(0, 7));
    }

    static void promise31AShopThatIsWetHasItsGoodsMoreLoss() {
        houseAt(1, 0, 1).due(9, x -> x.about(0, 5)).live(1).due(18, x -> x.about(0, 5)).due(2, x -> x.about(0, 4));
    }

    static void promise31AShopThatIsDryKeepsItsLoss() {
        houseAt(1, 0, 1).does(x -> x.level(7, 0)).live(3).due(9, x -> x.about(0, 5));
    }

    static void promise31AWellThatIsWetHas2MoreSalt() {
        houseAt(2, 0, 1).due(2, x -> x.about(0, 6)).live(1).due(4, x -> x.about(0, 6)).due(2, x -> x.about(0, 4));
    }

    static void promise31AWellThatIsDryHas1Less() {
        houseAt(2, 0, 1).does(x -> x.level(7, 0)).live(1).due(1, x -> x.about(0, 6)).live(1).due(0, x -> x.about(0, 6));
    }

    static void promise31SaltIs0AtLeast() {
        houseAt(2, 0, 0).due(0, x -> x.about(0, 6));
        houseAt(2, 0, 1).does(x -> x.level(7, 0)).live(9).due(0, x -> x.about(0, 6));
    }

    static void promise31WetIsBehindTheFlow() {
        new Scene().pair(7, 8).does(x -> x.level(7, 4)).does(x -> x.house(0, 7, 3, 0, 0))
            .does(x -> x.house(0, 8, 0, 0, 0))
            .live(1).due(0, x -> x.about(0, 7)).due(1, x -> x.about(1, 7));
    }

    static void promise31TheTwelfthHouseIsWetToo() {
        Scene.full().does(x -> x.level(22, 300)).live(1).due(1, x -> x.about(11, 7));
    }

    // ---- TOO LATE and IN VAIN

    private static Scene wetHouse() {
        return new Scene().island(7).island(0).does(x -> x.house(0, 7, 0, 0, 0)).does(x -> x.level(7, 1))
            .does(x -> x.mouth(0));
    }

    static void promise31TooLateWithoutAMouth() {
        new Scene().island(7).does(x -> x.house(0, 7, 0, 0, 0)).does(x -> x.level(7, 1)).live(2)
            .due(2, x -> x.status(8))
            .due(0, x -> x.status(9));
    }

    static void promise31TooLateWithOpenGates() {
        wetHouse().live(1).due(1, x -> x.status(8));
    }

    static void promise31NotTooLateWithOneGateShut() {
        wetHouse().does(x -> x.mouth(12)).does(x -> x.gate(1, true)).live(1).due(0, x -> x.status(8));
    }

    static void promise31NotTooLateWithNoHouseWet() {
        wetHouse().does(x -> x.level(7, 0)).live(1).due(0, x -> x.status(8));
        new Scene().live(1).due(0, x -> x.status(8));
    }

    static void promise31SeveralWetHousesAreTooLateOnce() {
        wetHouse().does(x -> x.house(1, 7, 0, 0, 0)).does(x -> x.house(2, 7, 0, 0, 0)).live(1).due(1, x -> x.status(8));
    }

    static void promise31OneWetHouseOfSeveralIsTooLate() {
        wetHouse().does(x -> x.house(1, 7, 9, 0, 0)).does(x -> x.house(2, 8, 0, 0, 0)).live(1).due(1, x -> x.status(8));
        new Scene().island(7).does(x -> x.house(0, 7, 9, 0, 0)).does(x -> x.house(0, 7, 0, 0, 0))
            .does(x -> x.level(7, 1))
            .live(1).due(1, x -> x.status(8));
    }

    static void promise31ALawThatShutsInTheQuarterIsNotTooLate() {
        wetHouse().law("g0:h=0").live(1).due(0, x -> x.status(8)).due(1, x -> x.status(9));
    }

    static void promise31ALawThatOpensInTheQuarterIsTooLate() {
        wetHouse().does(x -> x.gate(0, true)).law("g0:h=1").live(1).due(1, x -> x.status(8)).due(0, x -> x.status(9));
    }

    /** A shut gate, and a level of 11 that no way leads from. */
    private static Scene shutGate(int sea) {
        return new Scene().island(7).does(x -> x.mouth(0)).does(x -> x.gate(0, true)).does(x -> x.level(7, 11))
            .sea(sea).live(1);
    }

    static void promise31InVainAsTheSeaWasLower() {
        shutGate(10).due(1, x -> x.status(9));
        shutGate(-300).due(1, x -> x.status(9));
    }

    static void promise31InVainAsTheSeaWasAsHigh() {
        shutGate(11).due(1, x -> x.status(9));
    }

    static void promise31NotInVainAsTheSeaWasHigher() {
        shutGate(12).due(0, x -> x.status(9));
    }

    static void promise31NotInVainWithOpenGates() {
        new Scene().does(x -> x.mouth(0)).does(x -> x.level(7, 11)).live(1).due(0, x -> x.status(9));
    }

    static void promise31NotInVainWithoutAMouth() {
        new Scene().does(x -> x.level(7, 11)).live(1).due(0, x -> x.status(9));
    }

    static void promise31InVainWithoutASea() {
        new Scene().does(x -> x.mouth(0)).does(x -> x.gate(0, true)).live(2).due(2, x -> x.status(9));
    }

    static void promise31InVainByLevelsAheadOfTheFlow() {
        // the flow takes 40 down to 20 at once
        new Scene().does(x -> x.mouth(0)).does(x -> x.gate(0, true)).does(x -> x.level(24, 40)).sea(40).live(1)
            .due(1, x -> x.status(9));
    }

    static void promise31InVainByLevelsAheadOfTheSea() {
        // an open mouth brings 50 in, but it was 0 ahead
        new Scene().does(x -> x.mouth(0)).does(x -> x.mouth(1)).does(x -> x.gate(0, true)).sea(30).live(1)
            .due(0, x -> x.status(9));
    }

    static void promise31SeveralShutGatesAreInVainOnce() {
        Scene.full().does(x -> x.gate(0, true)).does(x -> x.gate(1, true)).live(1).due(1, x -> x.status(9));
    }

    static void promise31InVainBySeaAndNotByForecast() {
        new Scene().does(x -> x.mouth(0)).does(x -> x.gate(0, true)).sea(5).forecast(-5).live(1)
            .due(0, x -> x.status(9));
        new Scene().does(x -> x.mouth(0)).does(x -> x.gate(0, true)).sea(-5).forecast(5).live(1)
            .due(1, x -> x.status(9));
    }

    // ---- 6 NOW, and the end of a day

    /** Two cells between which 3 run in the first two quarters of a day. */
    private static Scene calm(int calm) {
        return new Scene().pair(0, 1).does(x -> x.level(0, 8)).does(x -> x.rule(2, calm));
    }

    static void promise31WhatRanIsOfTheWholeDay() {
        calm(0).live(1).due(2, x -> x.cell(0, 3)).live(1).due(3, x -> x.cell(0, 3)).live(93).due(3, x -> x.cell(0, 3))
            .due(3, x -> x.cell(1, 3));
    }

    static void promise31WhatRanIs0InANewDay() {
        calm(0).live(95).due(3, x -> x.cell(0, 3)).live(1).due(0, x -> x.cell(0, 3)).due(0, x -> x.cell(1, 3));
    }

    static void promise31NoMudAheadOfTheDaysEnd() {
        calm(9).live(95).due(20, x -> x.cell(0, 0)).due(20, x -> x.cell(24, 0));
    }

    static void promise31MudWhereLessRanThanCalm() {
        calm(4).live(96).due(19, x -> x.cell(0, 0)).due(19, x -> x.cell(1, 0)).due(19, x -> x.cell(24, 0));
    }

    static void promise31NoMudWhereAsMuchRanAsCalm() {
        calm(3).live(96).due(20, x -> x.cell(0, 0)).due(20, x -> x.cell(1, 0)).due(19, x -> x.cell(2, 0));
    }

    static void promise31NoMudWhereMoreRanThanCalm() {
        calm(2).live(96).due(20, x -> x.cell(0, 0)).due(19, x -> x.cell(2, 0));
    }

    static void promise31NoMudWithCalm0() {
        calm(0).live(192).due(20, x -> x.cell(0, 0)).due(20, x -> x.cell(24, 0));
    }

    static void promise31MudWithTheGreatestCalm() {
        calm(9_999).live(192).due(18, x -> x.cell(0, 0)).due(18, x -> x.cell(24, 0));
    }

    static void promise31WhatRanYesterdayDoesNotCount() {
        calm(3).live(192).due(19, x -> x.cell(0, 0)).due(18, x -> x.cell(2, 0));
    }

    static void promise31TheLastQuarterOfADayRunsInIt() {
        calm(3).does(x -> x.level(0, 0)).live(95).does(x -> x.level(0, 12)).live(1).due(20, x -> x.cell(0, 0))
            .due(0, x -> x.cell(0, 3)).live(1).due(1, x -> x.cell(0, 3));
    }

    static void promise31DepthIs0AtLeast() {
        calm(9).does(x -> x.depth(5, 0)).does(x -> x.depth(6, 1)).live(96).due(0, x -> x.cell(5, 0))
            .due(0, x -> x.cell(6, 0)).live(96).due(0, x -> x.cell(5, 0)).due(0, x -> x.cell(6, 0));
    }

    static void promise31MudComesAtTheEndOfEachDay() {
        calm(9).live(96 * 3).due(17, x -> x.cell(24, 0)).live(95).due(17, x -> x.cell(24, 0)).live(1)
            .due(16, x -> x.cell(24, 0));
    }

    private static Scene sinking(int sink) {
        return new Scene().does(x -> x.house(0, 7, 3, sink, 0));
    }

    static void promise31NothingSinksAheadOfTheDaysEnd() {
        sinking(1).live(95).due(0, x -> x.about(0, 3)).live(1).due(1, x -> x.about(0, 3));
    }

    static void promise31Sink0NeverSinks() {
        sinking(0).live(96 * 4).due(0, x -> x.about(0, 3));
    }

    static void promise31Sink1SinksEachDay() {
        sinking(1).live(96 * 4).due(4, x -> x.about(0, 3));
    }

    static void promise31Sink2SinksEverySecondDay() {
        sinking(2).live(96).due(0, x -> x.about(0, 3)).live(95).due(0, x -> x.about(0, 3)).live(1)
            .due(1, x -> x.about(0, 3)).live(96).due(1, x -> x.about(0, 3)).live(96).due(2, x -> x.about(0, 3));
    }

    static void promise31Sink99SinksOnDay99() {
        sinking(99).live(96 * 99 - 1).due(0, x -> x.about(0, 3)).live(1).due(1, x -> x.about(0, 3));
    }

    static void promise31SinkGoesByTheDayAndNotByTheHousesAge() {
        new Scene().live(96).does(x -> x.house(0, 7, 3, 2, 0)).live(96).due(1, x -> x.about(0, 3));
    }

    static void promise31WhatSankLowersTheFloorFromTheNextQuarterOn() {
        new Scene().island(7).does(x -> x.house(0, 7, 3, 1, 0)).does(x -> x.level(7, 3)).live(96)
            .due(0, x -> x.about(0, 4)).live(1).due(1, x -> x.about(0, 4)).due(3, x -> x.about(0, 2));
    }

    static void promise31AFloorCanSinkBelow0() {
        new Scene().island(7).does(x -> x.house(0, 7, 0, 1, 0)).live(96).due(0, x -> x.about(0, 4)).live(1)
            .due(1, x -> x.about(0, 4));
    }
}
