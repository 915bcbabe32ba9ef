/** What the document says of boats, their steps and routes at their edges: promises 26 to 30. */
final class BoatEdges {
    private static final int NONE = Scene.NONE;
    private static final int MIN = Scene.MIN;
    private static final int MAX = Scene.MAX;

    private BoatEdges() {
    }

    // ---- Promise 26: boat

    static void promise26BoatsHaveNumbersFrom0On() {
        Scene s = new Scene();
        for (int b = 0; b < 6; b++) {
            s.due(b, x -> x.boat(0, 1, 1, 1, 0)).due(b + 1, x -> x.status(5));
        }
    }

    static void promise26SixBoatsAtMost() {
        Scene.full().refused(-7, x -> x.boat(0, 1, 1, 1, 0)).refused(-7, x -> x.boat(24, 60, 99, 9, 9))
            .due(6, x -> x.status(5));
    }

    static void promise26TheFirstAndTheLastCell() {
        new Scene().due(0, x -> x.boat(0, 1, 1, 1, 0)).due(1, x -> x.boat(24, 1, 1, 1, 0))
            .due(0, x -> x.sails(0, 0)).due(24, x -> x.sails(1, 0));
    }

    static void promise26NoSuchCell() {
        Scene.busy().refusedEach(-1, (x, n) -> x.boat(n, 1, 1, 1, 0), -1, 25, MIN, MAX);
    }

    static void promise26DraughtIsFrom1To60() {
        // DRAUGHT 1 needs 1, DRAUGHT 60 needs 60
        new Scene().due(0, x -> x.boat(0, 1, 1, 1, 0)).due(1, x -> x.boat(0, 60, 1, 1, 0))
            .does(x -> x.goal(0, 1)).does(x -> x.goal(1, 1)).does(x -> x.depth(0, 1)).does(x -> x.depth(1, 1))
            .due(1, x -> x.stepOf(0)).due(NONE, x -> x.stepOf(1)).does(x -> x.depth(0, 60)).does(x -> x.depth(1, 59))
            .due(NONE, x -> x.stepOf(1)).does(x -> x.depth(1, 60)).due(1, x -> x.stepOf(1));
    }

    static void promise26DraughtBelow1OrAbove60IsWrong() {
        Scene.busy().refusedEach(-6, (x, n) -> x.boat(0, n, 1, 1, 0), 0, -1, 61, MIN, MAX);
    }

    static void promise26HeightIsFrom1To99() {
        new Scene().due(0, x -> x.boat(0, 1, 1, 1, 0)).due(1, x -> x.boat(0, 1, 99, 1, 0)).pair(0, 1)
            .does(x -> x.goal(0, 1)).does(x -> x.goal(1, 1)).does(x -> x.bridge(0, 1, 98)).due(1, x -> x.stepOf(0))
            .due(NONE, x -> x.stepOf(1)).does(x -> x.bridge(0, 1, 99)).due(1, x -> x.stepOf(1))
            .does(x -> x.bridge(0, 1, 0)).due(NONE, x -> x.stepOf(0)).does(x -> x.bridge(0, 1, 1))
            .due(1, x -> x.stepOf(0));
    }

    static void promise26HeightBelow1OrAbove99IsWrong() {
        Scene.busy().refusedEach(-6, (x, n) -> x.boat(0, 1, n, 1, 0), 0, -1, 100, MIN, MAX);
    }

    static void promise26SpeedIsFrom1To9() {
        new Scene().due(0, x -> x.boat(0, 1, 1, 1, 0)).due(1, x -> x.boat(0, 1, 1, 9, 0)).does(x -> x.goal(0, 1))
            .does(x -> x.goal(1, 1)).live(1).due(0, x -> x.sails(0, 4)).due(20, x -> x.sails(1, 4));
    }

    static void promise26SpeedBelow1OrAbove9IsWrong() {
        Scene.busy().refusedEach(-6, (x, n) -> x.boat(0, 1, 1, n, 0), 0, -1, 10, MIN, MAX);
    }

    static void promise26RankIsFrom0To9() {
        new Scene().due(0, x -> x.boat(0, 1, 1, 1, 0)).due(1, x -> x.boat(0, 1, 1, 1, 9)).does(x -> x.goal(0, 1))
            .does(x -> x.goal(1, 1)).does(x -> x.narrow(0, 1, true)).live(1).due(0, x -> x.sails(0, 0))
            .due(1, x -> x.sails(1, 0));
    }

    static void promise26RankBelow0OrAbove9IsWrong() {
        Scene.busy().refusedEach(-6, (x, n) -> x.boat(0, 1, 1, 1, n), -1, 10, MIN, MAX);
    }

    static void promise26NobodyComesAheadOfWrong() {
        Scene.busy().refused(-1, x -> x.boat(25, 0, 1, 1, 0)).refused(-1, x -> x.boat(-1, 1, 100, 1, 0))
            .refused(-1, x -> x.boat(25, 1, 1, 10, 0)).refused(-1, x -> x.boat(25, 1, 1, 1, -1));
    }

    static void promise26NobodyComesAheadOfRoom() {
        Scene.full().refusedEach(-1, (x, n) -> x.boat(n, 1, 1, 1, 0), -1, 25);
    }

    static void promise26WrongComesAheadOfRoom() {
        Scene.full().refused(-6, x -> x.boat(0, 61, 1, 1, 0)).refused(-6, x -> x.boat(0, 1, 100, 1, 0))
            .refused(-6, x -> x.boat(0, 1, 1, 10, 0)).refused(-6, x -> x.boat(0, 1, 1, 1, 10));
    }

    static void promise26ANewBoatHasNoGoalAndDidNothing() {
        new Scene().due(0, x -> x.boat(7, 1, 1, 1, 0)).due(7, x -> x.sails(0, 0)).due(NONE, x -> x.sails(0, 1))
            .dueEach(0, (x, n) -> x.sails(0, n), 2, 3, 4, 5).due(0, x -> x.status(6));
    }

    static void promise26ANewBoatKnowsNothingOfOneThatTheImageTookBack() {
        new Scene().does(x -> x.image()).does(x -> x.boat(0, 1, 1, 9, 0)).does(x -> x.goal(0, 1)).live(1)
            .does(x -> x.goal(0, 24)).does(x -> x.depth(2, 0)).does(x -> x.depth(6, 0)).does(x -> x.depth(0, 0)).live(1)
            .due(1, x -> x.sails(0, 2)).due(1, x -> x.sails(0, 3)).due(20, x -> x.sails(0, 4))
            .does(x -> x.restore()).due(0, x -> x.boat(7, 1, 1, 1, 0)).due(NONE, x -> x.sails(0, 1))
            .dueEach(0, (x, n) -> x.sails(0, n), 2, 3, 4, 5);
    }

    // ---- Promise 27: goal

    static void promise27GoalAnswersWhatItWas() {
        new Scene().does(x -> x.boat(7, 1, 1, 1, 0)).due(NONE, x -> x.goal(0, 3)).due(3, x -> x.goal(0, 3))
            .due(3, x -> x.goal(0, 4)).due(4, x -> x.sails(0, 1));
    }

    static void promise27TheFirstAndTheLastCell() {
        new Scene().does(x -> x.boat(7, 1, 1, 1, 0)).due(NONE, x -> x.goal(0, 0)).due(0, x -> x.sails(0, 1))
            .due(0, x -> x.goal(0, 24)).due(24, x -> x.sails(0, 1)).due(1, x -> x.status(6));
    }

    static void promise27NoneIsNoGoal() {
        Scene.busy().due(24, x -> x.goal(0, NONE)).due(NONE, x -> x.sails(0, 1)).due(1, x -> x.status(6))
            .due(NONE, x -> x.goal(0, NONE)).due(1, x -> x.status(6));
    }

    static void promise27ItsOwnCellIsNone() {
        new Scene().does(x -> x.boat(7, 1, 1, 1, 0)).due(NONE, x -> x.goal(0, 7)).due(NONE, x -> x.sails(0, 1))
            .due(NONE, x -> x.goal(0, 8)).due(8, x -> x.goal(0, 7)).due(0, x -> x.status(6)).due(0, x -> x.sails(0, 3));
    }

    static void promise27AnotherBoatsCellIsAGoal() {
        new Scene().does(x -> x.boat(7, 1, 1, 1, 0)).does(x -> x.boat(8, 1, 1, 1, 0)).due(NONE, x -> x.goal(0, 8))
            .due(8, x -> x.sails(0, 1)).due(NONE, x -> x.sails(1, 1));
    }

    static void promise27NoSuchCell() {
        Scene.busy().refusedEach(-1, (x, n) -> x.goal(0, n), -2, 25, MIN, MAX);
    }

    static void promise27NoSuchBoat() {
        Scene.busy().refusedEach(-1, (x, n) -> x.goal(n, 3), -1, 3, MIN, MAX)
            .refusedEach(-1, (x, n) -> x.goal(n, NONE), -1, 3).refused(-1, x -> x.goal(3, 25));
        Scene.full().refused(-1, x -> x.goal(6, 3));
        new Scene().refused(-1, x -> x.goal(0, 3));
    }

    static void promise27TheLastBoatIs5() {
        Scene.full().due(24, x -> x.goal(5, 3)).due(3, x -> x.sails(5, 1));
    }

    // ---- Promise 28: stepOf

    /** A boat of DRAUGHT 20 and HEIGHT 10 in 0 whose only way is that to its goal, 1. */
    private static Scene oneWay() {
        return new Scene().pair(0, 1).does(x -> x.boat(0, 20, 10, 1, 0)).does(x -> x.goal(0, 1));
    }

    static void promise28NoSuchBoatIsNoneAndNoRefusal() {
        Scene.busy().dueEach(NONE, WaterCity::stepOf, -1, 3, 5, 6, MIN, MAX);
        new Scene().due(NONE, x -> x.stepOf(0));
        Scene.full().due(6, x -> x.stepOf(5)).due(NONE, x -> x.stepOf(6));
    }

    static void promise28NoGoalIsNone() {
        new Scene().does(x -> x.boat(0, 1, 1, 1, 0)).due(NONE, x -> x.stepOf(0));
    }

    static void promise28DepthAsGreatAsTheDraughtIsEnough() {
        oneWay().due(1, x -> x.stepOf(0));
    }

    static void promise28OneLessWhereItIsIsNotEnough() {
        oneWay().does(x -> x.depth(0, 19)).due(NONE, x -> x.stepOf(0));
    }

    static void promise28OneLessWhereItComesToIsNotEnough() {
        oneWay().does(x -> x.depth(1, 19)).due(NONE, x -> x.stepOf(0));
    }

    static void promise28LevelAndDepthTogetherAreEnough() {
        oneWay().does(x -> x.depth(0, 19)).does(x -> x.level(0, 1)).due(1, x -> x.stepOf(0))
            .does(x -> x.depth(1, 0)).does(x -> x.level(1, 20)).due(1, x -> x.stepOf(0))
            .does(x -> x.level(1, 19)).due(NONE, x -> x.stepOf(0));
    }

    static void promise28ALevelBelow0TakesDepthAway() {
        oneWay().does(x -> x.level(0, -1)).due(NONE, x -> x.stepOf(0)).does(x -> x.depth(0, 21))
            .due(1, x -> x.stepOf(0)).does(x -> x.level(1, -1)).due(NONE, x -> x.stepOf(0));
    }

    static void promise28AClosedWayIsNone() {
        oneWay().does(x -> x.close(0, 1, true)).due(NONE, x -> x.stepOf(0));
    }

    static void promise28ANarrowWayIsOne() {
        oneWay().does(x -> x.narrow(0, 1, true)).due(1, x -> x.stepOf(0));
    }

    static void promise28ABridgeAsHighAsTheBoat() {
        oneWay().does(x -> x.bridge(0, 1, 10)).due(1, x -> x.stepOf(0));
    }

    static void promise28ABridgeOneLower() {
        oneWay().does(x -> x.bridge(0, 1, 9)).due(NONE, x -> x.stepOf(0));
    }

    static void promise28TheLevelLiftsTheBoat() {
        oneWay().does(x -> x.bridge(0, 1, 12)).does(x -> x.level(0, 2)).due(1, x -> x.stepOf(0))
            .does(x -> x.level(0, 3)).due(NONE, x -> x.stepOf(0));
    }

    static void promise28TheLevelOfTheNextCellLiftsItToo() {
        oneWay().does(x -> x.bridge(0, 1, 12)).does(x -> x.level(1, 2)).due(1, x -> x.stepOf(0))
            .does(x -> x.level(1, 3)).due(NONE, x -> x.stepOf(0));
    }

    static void promise28TheGreaterLevelOfBothCounts() {
        oneWay().does(x -> x.bridge(0, 1, 12)).does(x -> x.level(0, 3)).does(x -> x.level(1, 1))
            .due(NONE, x -> x.stepOf(0)).does(x -> x.level(0, 1)).does(x -> x.level(1, 3))
            .due(NONE, x -> x.stepOf(0)).does(x -> x.level(1, 2)).due(1, x -> x.stepOf(0));
    }

    static void promise28LevelsBelow0LowerTheBoat() {
        oneWay().does(x -> x.depth(0, 60)).does(x -> x.depth(1, 60)).does(x -> x.level(0, -8))
            .does(x -> x.level(1, -7)).does(x -> x.bridge(0, 1, 3)).due(1, x -> x.stepOf(0))
            .does(x -> x.bridge(0, 1, 2)).due(NONE, x -> x.stepOf(0));
    }

    static void promise28ABridgeOf0() {
        oneWay().does(x -> x.bridge(0, 1, 0)).due(NONE, x -> x.stepOf(0)).does(x -> x.depth(0, 60))
            .does(x -> x.depth(1, 60)).does(x -> x.level(0, -10)).does(x -> x.level(1, -10)).due(1, x -> x.stepOf(0));
    }

    static void promise28WithoutABridgeNoLevelIsTooHigh() {
        oneWay().does(x -> x.level(0, 300)).does(x -> x.level(1, 300)).due(1, x -> x.stepOf(0));
    }

    static void promise28ABridgeFromBothItsEnds() {
        oneWay().does(x -> x.boat(1, 1, 10, 1, 0)).does(x -> x.goal(1, 0)).does(x -> x.bridge(1, 0, 9))
            .due(NONE, x -> x.stepOf(1)).does(x -> x.bridge(1, 0, 10)).due(0, x -> x.stepOf(1));
    }

    static void promise28OfSeveralTheLeastNextCell() {
        Scene s = new Scene().does(x -> x.boat(12, 1, 1, 1, 0));
        int[][] steps = {{6, 7}, {8, 7}, {16, 11}, {18, 13}, {0, 7}, {4, 7}, {20, 11}, {24, 13}};
        for (int[] step : steps) {
            s.does(x -> x.goal(0, step[0])).due(step[1], x -> x.stepOf(0));
        }
    }

    static void promise28FewestWaysComeAheadOfTheLeastCell() {
        Scene s = new Scene().does(x -> x.boat(12, 1, 1, 1, 0));
        int[][] steps = {{7, 7}, {11, 11}, {13, 13}, {17, 17}, {2, 7}, {10, 11}, {14, 13}, {22, 17}};
        for (int[] step : steps) {
            s.does(x -> x.goal(0, step[0])).due(step[1], x -> x.stepOf(0));
        }
    }

    static void promise28ItsWayIsAllPassed() {
        // the way over 1 and 2 is shut at 3, so it goes down at once
        new Scene().does(x -> x.boat(0, 20, 1, 1, 0)).does(x -> x.goal(0, 3)).due(1, x -> x.stepOf(0))
            .does(x -> x.depth(1, 19)).due(5, x -> x.stepOf(0)).does(x -> x.depth(1, 20)).does(x -> x.close(2, 3, true))
            .due(1, x -> x.stepOf(0)).does(x -> x.close(1, 6, true)).does(x -> x.close(2, 7, true))
            .due(5, x -> x.stepOf(0));
    }

    static void promise28TheGoalItselfIsPassedTo() {
        new Scene().does(x -> x.boat(0, 20, 1, 1, 0)).does(x -> x.goal(0, 4)).does(x -> x.depth(4, 19))
            .due(NONE, x -> x.stepOf(0)).does(x -> x.level(4, 1)).due(1, x -> x.stepOf(0));
    }

    static void promise28NoWayToAGoalThatIsShutOff() {
        new Scene().does(x -> x.boat(0, 20, 1, 1, 0)).does(x -> x.goal(0, 12)).island(12).due(NONE, x -> x.stepOf(0));
    }

    /** All rows are joined at their ends in turn, so that 24 ways lead from 0 to 24 and no fewer. */
    private static Scene windingWay() {
        Scene s = new Scene();
        for (int y = 0; y < 4; y++) {
            for (int x0 = 0; x0 < 5; x0++) {
                int above = 5 * y + x0;
                if (x0 != (y % 2 == 0 ? 4 : 0)) {
                    s.does(x -> x.close(above, above + 5, true));
                }
            }
        }
        return s.does(x -> x.boat(0, 20, 1, 1, 0)).does(x -> x.goal(0, 24));
    }

    static void promise28TheLongestWay() {
        windingWay().due(1, x -> x.stepOf(0)).live(4).due(9, x -> x.stepOf(0)).live(19).due(24, x -> x.stepOf(0))
            .due(0, x -> x.sails(0, 3)).live(1).due(1, x -> x.sails(0, 3)).due(24, x -> x.sails(0, 5));
    }

    static void promise28AskingChangesNothing() {
        Scene.busy().changesNothing(x -> x.stepOf(0)).changesNothing(x -> x.stepOf(9));
    }

    // ---- Promise 29: route

    static void promise29WhereItIsIs0() {
        Scene.busy().due(4, x -> x.sails(2, 0)).due(0, x -> x.route(2, 4, 1)).due(0, x -> x.route(2, 4, 96));
    }

    static void promise29WhereItIsIs0EvenOnTooLittleWater() {
        new Scene().does(x -> x.boat(3, 60, 1, 1, 0)).due(0, x -> x.route(0, 3, 1)).due(NONE, x -> x.route(0, 4, 96));
    }

    static void promise29WithinJustAsManyQuarters() {
        new Scene().does(x -> x.boat(0, 1, 1, 1, 0)).due(1, x -> x.route(0, 1, 1)).due(4, x -> x.route(0, 4, 4))
            .due(8, x -> x.route(0, 24, 8)).due(8, x -> x.route(0, 24, 96));
    }

    static void promise29NotWithinOneLess() {
        new Scene().does(x -> x.boat(0, 1, 1, 1, 0)).due(NONE, x -> x.route(0, 4, 3)).due(NONE, x -> x.route(0, 24, 7))
            .due(NONE, x -> x.route(0, 2, 1));
    }

    static void promise29TheLongestRoute() {
        windingWay().due(24, x -> x.route(0, 24, 24)).due(NONE, x -> x.route(0, 24, 23));
    }

    static void promise29QuartersFrom1To96() {
        new Scene().does(x -> x.boat(0, 1, 1, 1, 0)).due(1, x -> x.route(0, 1, 1)).due(1, x -> x.route(0, 1, 96));
    }

    static void promise29QuartersBelow1OrAbove96AreWrong() {
        Scene.busy().refusedEach(-6, (x, n) -> x.route(0, 1, n), 0, -1, 97, MIN, MAX);
    }

    static void promise29QuartersThatMayNotBeAreWrongWhereItIs() {
        new Scene().does(x -> x.boat(3, 1, 1, 1, 0)).refusedEach(-6, (x, n) -> x.route(0, 3, n), 0, 97);
    }

    static void promise29NoSuchBoatIsNoneAndNoRefusal() {
        Scene.busy().dueEach(NONE, (x, n) -> x.route(n, 0, 1), -1, 3, 5, 6, MIN, MAX);
        new Scene().due(NONE, x -> x.route(0, 0, 1));
        Scene.full().due(7, x -> x.route(5, 24, 96)).due(NONE, x -> x.route(6, 24, 96));
    }

    static void promise29NoSuchCellIsNoneAndNoRefusal() {
        Scene.busy().dueEach(NONE, (x, n) -> x.route(0, n, 1), -1, 25, MIN, MAX);
    }

    static void promise29NobodyComesAheadOfWrong() {
        Scene.busy().dueEach(NONE, (x, n) -> x.route(3, 0, n), 0, 97, -1)
            .dueEach(NONE, (x, n) -> x.route(0, 25, n), 0, 97)
            .due(NONE, x -> x.route(-1, -1, 0));
    }

    static void promise29NoWayIsNone() {
        new Scene().does(x -> x.boat(0, 1, 1, 1, 0)).island(12).due(NONE, x -> x.route(0, 12, 96));
    }

    static void promise29ItNeedsNoGoal() {
        new Scene().does(x -> x.boat(0, 1, 1, 1, 0)).due(8, x -> x.route(0, 24, 96)).due(NONE, x -> x.sails(0, 1));
    }

    static void promise29ItsGoalDoesNotBindIt() {
        new Scene().does(x -> x.boat(12, 1, 1, 1, 0)).does(x -> x.goal(0, 24)).due(4, x -> x.route(0, 0, 96));
    }

    static void promise29OtherBoatsOnANarrowWayDoNotHinderIt() {
        new Scene().does(x -> x.narrow(0, 1, true)).does(x -> x.boat(0, 1, 1, 1, 0)).does(x -> x.boat(0, 1, 1, 1, 9))
            .does(x -> x.goal(1, 1)).due(1, x -> x.route(0, 1, 1));
    }

    /** The forecast lets 60 in from quarter 4 to 7: half of it comes to 0, and 7 of it flow on to 1 in quarter 4. */
    private static Scene tide() {
        return new Scene().pair(0, 1).does(x -> x.mouth(0)).forecast(0, 0, 0, 0, 60, 60, 60, 60);
    }

    static void promise29ItWaitsForTheTide() {
        tide().does(x -> x.boat(1, 22, 1, 1, 0)).due(5, x -> x.route(0, 0, 5)).due(NONE, x -> x.route(0, 0, 4));
    }

    static void promise29QuartersCountFromNowOn() {
        tide().does(x -> x.boat(1, 22, 1, 1, 0)).live(3).due(2, x -> x.route(0, 0, 2)).due(NONE, x -> x.route(0, 0, 1));
    }

    static void promise29LevelsAreThoseBehindTheFlowOfTheQuarter() {
        // behind the first flow 4 becomes 3 and 0 becomes 1
        new Scene().pair(0, 1).does(x -> x.level(0, 4)).does(x -> x.depth(0, 60)).does(x -> x.boat(0, 21, 1, 1, 0))
            .due(1, x -> x.route(0, 1, 1)).does(x -> x.boat(0, 22, 1, 1, 0)).due(NONE, x -> x.route(1, 1, 96));
        new Scene().pair(0, 1).does(x -> x.level(0, 4)).does(x -> x.depth(1, 60)).does(x -> x.boat(0, 24, 1, 1, 0))
            .does(x -> x.goal(0, 1)).due(1, x -> x.stepOf(0)).due(NONE, x -> x.route(0, 1, 96));
    }

    static void promise29ItWaitsForTheEbbUnderABridge() {
        // the greater level of both is 35, 30, 25, 21, 18 behind the flows of the first five quarters
        Scene s = new Scene().pair(0, 1).does(x -> x.mouth(0)).does(x -> x.level(0, 40)).does(x -> x.level(1, 40))
            .does(x -> x.boat(0, 1, 5, 1, 0));
        s.does(x -> x.bridge(0, 1, 30)).due(3, x -> x.route(0, 1, 96)).does(x -> x.bridge(0, 1, 26))
            .due(4, x -> x.route(0, 1, 96)).due(4, x -> x.route(0, 1, 4)).due(NONE, x -> x.route(0, 1, 3))
            .does(x -> x.bridge(0, 1, 25)).due(5, x -> x.route(0, 1, 96));
    }

    static void promise29ItGoesAheadInTimeAndWaitsOnItsWay() {
        // 0 has 25 behind the first quarter and 18 behind the next: only at once can it leave 0;
        // 2 has 40, 39, 37, 35, 33, 31, 29 behind the first seven: only then it is low enough for the bridge
        Scene s = new Scene().does(x -> x.close(0, 5, true)).does(x -> x.close(1, 6, true))
            .does(x -> x.close(2, 7, true)).does(x -> x.close(2, 3, true)).does(x -> x.mouth(0));
        s.does(x -> x.level(0, 40)).does(x -> x.level(1, 40)).does(x -> x.level(2, 40)).does(x -> x.depth(1, 60))
            .does(x -> x.depth(2, 60)).does(x -> x.bridge(1, 2, 35)).does(x -> x.boat(0, 45, 5, 1, 0));
        s.due(1, x -> x.route(0, 1, 96)).due(7, x -> x.route(0, 2, 96)).due(NONE, x -> x.route(0, 2, 6));
        s.does(x -> x.boat(0, 46, 5, 1, 0)).due(NONE, x -> x.route(1, 1, 96)).due(NONE, x -> x.route(1, 2, 96));
    }

    static void promise29TheForecastCountsAndNotTheSea() {
        new Scene().pair(0, 1).does(x -> x.mouth(0)).sea(60).does(x -> x.boat(1, 22, 1, 1, 0))
            .due(NONE, x -> x.route(0, 0, 96)).forecast(60).due(1, x -> x.route(0, 0, 96));
    }

    static void promise29LawsCountInWhatIsForetold() {
        new Scene().pair(0, 1).does(x -> x.mouth(0)).forecast(60).law("g0:h=0").does(x -> x.boat(1, 22, 1, 1, 0))
            .due(5, x -> x.route(0, 0, 96)).does(x -> x.force(0, false)).due(1, x -> x.route(0, 0, 96));
    }

    static void promise29OtherBoatsThatArriveCountInWhatIsForetold() {
        // the second boat is there behind two quarters; then the law opens the gate
        new Scene().pair(0, 1).does(x -> x.mouth(0)).forecast(60).law("g0:w>0").does(x -> x.boat(1, 22, 1, 1, 0))
            .does(x -> x.boat(22, 1, 1, 1, 0)).does(x -> x.goal(1, 24)).due(3, x -> x.route(0, 0, 96))
            .does(x -> x.goal(1, NONE)).due(1, x -> x.route(0, 0, 96));
    }

    static void promise29TheLastQuarterOfADay() {
        // with CALM the mud takes a depth at the day's end
        Scene s = new Scene().does(x -> x.rule(2, 9)).does(x -> x.boat(0, 20, 1, 1, 0)).live(92);
        s.due(4, x -> x.route(0, 4, 96)).due(NONE, x -> x.route(0, 9, 96)).does(x -> x.rule(2, 0))
            .due(5, x -> x.route(0, 9, 96));
    }

    static void promise29QuartersBeyondTheLast() {
        Scene.late(1).does(x -> x.boat(0, 1, 1, 1, 0)).due(4, x -> x.route(0, 4, 96));
    }

    static void promise29AskingChangesNothing() {
        Scene.busy().changesNothing(x -> x.route(0, 24, 96)).changesNothing(x -> x.route(9, 0, 0));
    }

    // ---- Promise 30: sails

    static void promise30EachWhatTellsItsOwn() {
        Scene s = new Scene().does(x -> x.boat(0, 20, 10, 4, 0)).does(x -> x.goal(0, 1)).live(1)
            .does(x -> x.goal(0, 3)).live(1).island(3).live(3);
        int[] due = {2, 3, 3, 1, 8, 2};
        for (int w = 0; w < 6; w++) {
            int what = w;
            s.due(due[w], x -> x.sails(0, what));
        }
    }

    static void promise30NoGoalIsNone() {
        new Scene().does(x -> x.boat(0, 1, 1, 1, 0)).due(NONE, x -> x.sails(0, 1));
    }

    static void promise30NoSuchBoatIsNoneAndNoRefusal() {
        Scene.busy().dueEach(NONE, (x, n) -> x.sails(n, 0), -1, 3, 5, 6, MIN, MAX);
        new Scene().due(NONE, x -> x.sails(0, 0));
        Scene.full().due(5, x -> x.sails(5, 0)).due(NONE, x -> x.sails(6, 0));
    }

    static void promise30AnotherWhatIsNoneAndNoRefusal() {
        Scene.busy().dueEach(NONE, (x, n) -> x.sails(0, n), -1, 6, MIN, MAX).due(NONE, x -> x.sails(3, 6));
    }

    static void promise30AskingChangesNothing() {
        Scene.busy().changesNothing(x -> x.sails(0, 2)).changesNothing(x -> x.sails(9, 9));
    }
}
