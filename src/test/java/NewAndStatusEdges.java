/** What the document says of a new object, and of how many of all there are: promises 1 and 39. */
final class NewAndStatusEdges {
    private static final int NONE = Scene.NONE;
    private static final int MIN = Scene.MIN;
    private static final int MAX = Scene.MAX;
    private static final int NO_STATUS = -1_000_001;

    private NewAndStatusEdges() {
    }

    private static void same(long got, long due) {
        if (got != due) {
            throw new AssertionError(got + " is not " + due);
        }
    }

    // ---- Promise 1: a new object

    static void promise1NoneIsMinus1() {
        same(WaterCity.NONE, -1);
    }

    static void promise1NoMouthsLawsHousesBoats() {
        new Scene().dueEach(0, WaterCity::status, 0, 1, 2, 3, 4, 5, 6);
    }

    static void promise1NowIs0() {
        new Scene().due(0, x -> x.status(7)).due(0, x -> x.image());
    }

    static void promise1NothingWasCounted() {
        new Scene().dueEach(0, WaterCity::status, 8, 9, 10, 11, 12, 13, 14, 15, 16, 17, 18);
    }

    static void promise1CellsAtFirst() {
        Scene s = new Scene();
        for (int c = 0; c < 25; c++) {
            int cell = c;
            s.due(20, x -> x.cell(cell, 0)).due(0, x -> x.cell(cell, 1)).due(1000, x -> x.cell(cell, 2))
                .due(0, x -> x.cell(cell, 3)).due(NONE, x -> x.cell(cell, 4));
        }
    }

    static void promise1WaysAtFirst() {
        Scene s = new Scene();
        for (int c = 0; c < 20; c++) {
            int cell = c;
            s.due(0, x -> x.way(cell, cell + 5, 0)).due(0, x -> x.way(cell, cell + 5, 1))
                .due(NONE, x -> x.way(cell, cell + 5, 2));
            int west = c + c / 4;
            s.due(0, x -> x.way(west, west + 1, 0)).due(0, x -> x.way(west, west + 1, 1))
                .due(NONE, x -> x.way(west, west + 1, 2));
        }
    }

    static void promise1ShelvesHoldNothing() {
        new Scene().dueEach(NONE, WaterCity::holds, 0, 1, 2, 3, 4, 5, 6, 7)
            .refusedEach(-3, (x, n) -> x.set(n, 0, 1), 0, 7);
    }

    static void promise1RulesAtFirst() {
        new Scene().due(0, x -> x.rule(0, 1)).due(9, x -> x.rule(1, 1)).due(0, x -> x.rule(2, 1));
    }

    static void promise1NoSeaNoForecastNoFaultNoImage() {
        new Scene().due(0, x -> x.seaAt(0, false)).due(0, x -> x.seaAt(0, true)).due(NONE, x -> x.fault())
            .refused(-6, x -> x.restore());
    }

    static void promise1ANewObjectKnowsNothingOfAnother() {
        Scene.busy().live(97);
        Scene.full().live(97);
        promise1NoMouthsLawsHousesBoats();
        promise1CellsAtFirst();
        promise1WaysAtFirst();
        promise1ShelvesHoldNothing();
        promise1RulesAtFirst();
        promise1NothingWasCounted();
        promise1NoSeaNoForecastNoFaultNoImage();
    }

    static void promise1TheLastOf512CallsIsAnswered() {
        // seven more are asked at the end of each test
        Scene s = new Scene();
        for (int n = 0; n < 504; n++) {
            s.does(x -> x.image());
        }
        s.due(20, x -> x.cell(0, 0));
    }

    static void promise1ANewObjectChangesNoOther() {
        Scene.busy().changesNothing(x -> new WaterCity().depth(0, 60));
    }

    // ---- Promise 39: status

    static void promise39EachWhatTellsItsOwn() {
        Scene s = Scene.full().does(x -> x.gate(0, true)).does(x -> x.force(2, false)).does(x -> x.force(3, false))
            .does(x -> x.goal(1, 9)).does(x -> x.goal(2, 9)).does(x -> x.goal(2, NONE)).does(x -> x.level(4, -7));
        int[] due = {3, 1, 5, 3, 12, 6, 2, 0, 0, 0, -7};
        for (int w = 0; w < due.length; w++) {
            int what = w;
            s.due(due[w], x -> x.status(what));
        }
        s.due(-7, x -> x.status(18));
    }

    static void promise39TooLateAndInVainAreTwo() {
        new Scene().island(7).does(x -> x.mouth(0)).does(x -> x.house(0, 7, 0, 0, 0)).does(x -> x.level(7, 1)).live(2)
            .does(x -> x.gate(0, true)).live(3).due(2, x -> x.status(8)).due(3, x -> x.status(9))
            .due(5, x -> x.status(7));
    }

    static void promise39AllLevelsTogether() {
        Scene s = new Scene();
        for (int c = 0; c < 25; c++) {
            int cell = c;
            s.does(x -> x.level(cell, 300));
        }
        s.due(7_500, x -> x.status(10)).due(7_500, x -> x.status(18)).does(x -> x.level(24, -300))
            .due(6_900, x -> x.status(10))
            .due(6_900, x -> x.status(18));
    }

    static void promise39LevelsBelow0Together() {
        Scene s = new Scene();
        for (int c = 0; c < 25; c++) {
            int cell = c;
            s.does(x -> x.level(cell, -300));
        }
        s.due(-7_500, x -> x.status(10)).due(-7_500, x -> x.status(18));
    }

    static void promise39NoWaterIsLostOnTheWay() {
        Scene.busy().due(0, x -> x.status(18) - x.status(10)).live(100).due(0, x -> x.status(18) - x.status(10));
    }

    static void promise39EachRefusalHasACountOfItsOwn() {
        new Scene().due(1, x -> x.row(0, 0, 1)).does(x -> x.house(0, 0, 0, 0, 0)).does(x -> x.show(1, 0))
            .refused(-1, x -> x.depth(25, 0)).refused(-2, x -> x.set(1, 0, 0)).refused(-3, x -> x.set(2, 0, 0))
            .refused(-4, x -> x.row(0, 0, -1)).refused(-5, x -> x.set(0, 1, 0)).refused(-6, x -> x.quarters(0))
            .refused(-7, x -> x.row(0, 0, 97)).dueEach(1, WaterCity::status, 11, 12, 13, 14, 15, 16, 17);
    }

    static void promise39RefusalsAreCountedEachTime() {
        Scene s = new Scene();
        for (int n = 1; n <= 100; n++) {
            s.refusedHere(-1, x -> x.depth(25, 0)).due(n, x -> x.status(11));
        }
        s.dueEach(0, WaterCity::status, 12, 13, 14, 15, 16, 17);
    }

    static void promise39AnotherWhatIsNoneLessAMillionAndNoRefusal() {
        Scene.busy().dueEach(NO_STATUS, WaterCity::status, -1, 19, 20, MIN, MAX);
    }

    static void promise39TheFirstAndTheLastWhat() {
        new Scene().does(x -> x.mouth(3)).does(x -> x.level(0, 5)).due(1, x -> x.status(0)).due(5, x -> x.status(18));
    }

    static void promise39AskingChangesNothing() {
        Scene.busy().changesNothing(x -> x.status(10)).changesNothing(x -> x.status(99));
    }
}
