/** What the document says of houses at their edges: promises 23 to 25. */
final class HouseEdges {
    private static final int NONE = Scene.NONE;
    private static final int MIN = Scene.MIN;
    private static final int MAX = Scene.MAX;

    private HouseEdges() {
    }

    // ---- Promise 23: house

    static void promise23HousesHaveNumbersFrom0On() {
        Scene s = new Scene();
        for (int h = 0; h < 12; h++) {
            s.due(h, x -> x.house(0, 0, 0, 0, 0)).due(h + 1, x -> x.status(4));
        }
    }

    static void promise23TwelveHousesAtMost() {
        Scene.full().refused(-7, x -> x.house(0, 0, 0, 0, 0)).refused(-7, x -> x.house(2, 24, 200, 99, 99))
            .due(12, x -> x.status(4));
    }

    static void promise23Kinds0To2() {
        new Scene().due(0, x -> x.house(0, 0, 0, 0, 0)).due(1, x -> x.house(1, 0, 0, 0, 0))
            .due(2, x -> x.house(2, 0, 0, 0, 0)).due(0, x -> x.about(0, 0)).due(1, x -> x.about(1, 0))
            .due(2, x -> x.about(2, 0));
    }

    static void promise23NoSuchKind() {
        Scene.busy().refusedEach(-1, (x, n) -> x.house(n, 0, 0, 0, 0), -1, 3, MIN, MAX);
    }

    static void promise23TheFirstAndTheLastCell() {
        new Scene().due(0, x -> x.house(0, 0, 0, 0, 0)).due(1, x -> x.house(0, 24, 0, 0, 0))
            .due(0, x -> x.about(0, 1)).due(24, x -> x.about(1, 1));
    }

    static void promise23NoSuchCell() {
        Scene.busy().refusedEach(-1, (x, n) -> x.house(0, n, 0, 0, 0), -1, 25, MIN, MAX);
    }

    static void promise23FloorIsFrom0To200() {
        new Scene().due(0, x -> x.house(0, 0, 0, 0, 0)).due(1, x -> x.house(0, 0, 200, 0, 0))
            .due(0, x -> x.about(0, 2)).due(200, x -> x.about(1, 2));
    }

    static void promise23FloorBelow0OrAbove200IsWrong() {
        Scene.busy().refusedEach(-6, (x, n) -> x.house(0, 0, n, 0, 0), -1, 201, MIN, MAX);
    }

    static void promise23SinkIsFrom0To99() {
        new Scene().due(0, x -> x.house(0, 0, 0, 0, 0)).due(1, x -> x.house(0, 0, 0, 99, 0));
    }

    static void promise23SinkBelow0OrAbove99IsWrong() {
        Scene.busy().refusedEach(-6, (x, n) -> x.house(0, 0, 0, n, 0), -1, 100, MIN, MAX);
    }

    static void promise23GoodsAreFrom0To99() {
        new Scene().island(0).due(0, x -> x.house(1, 0, 0, 0, 0)).due(1, x -> x.house(1, 0, 0, 0, 99))
            .does(x -> x.level(0, 1)).live(1).due(0, x -> x.about(0, 5)).due(99, x -> x.about(1, 5));
    }

    static void promise23GoodsBelow0OrAbove99AreWrong() {
        Scene.busy().refusedEach(-6, (x, n) -> x.house(1, 0, 0, 0, n), -1, 100, MIN, MAX)
            .refusedEach(-6, (x, n) -> x.house(0, 0, 0, 0, n), -1, 100);
    }

    static void promise23NobodyComesAheadOfWrong() {
        Scene.busy().refused(-1, x -> x.house(3, 0, 201, 0, 0)).refused(-1, x -> x.house(0, 25, 0, 100, 0))
            .refused(-1, x -> x.house(-1, -1, 0, 0, 100));
    }

    static void promise23NobodyComesAheadOfRoom() {
        Scene.full().refused(-1, x -> x.house(3, 0, 0, 0, 0)).refused(-1, x -> x.house(0, 25, 0, 0, 0));
    }

    static void promise23WrongComesAheadOfRoom() {
        Scene.full().refused(-6, x -> x.house(0, 0, 201, 0, 0)).refused(-6, x -> x.house(0, 0, 0, -1, 0))
            .refused(-6, x -> x.house(0, 0, 0, 0, 100));
    }

    static void promise23SeveralHousesInACell() {
        Scene.full().due(0, x -> x.about(0, 1)).due(22, x -> x.about(11, 1));
        new Scene().due(0, x -> x.house(0, 7, 0, 0, 0)).due(1, x -> x.house(1, 7, 0, 0, 0));
    }

    static void promise23ANewHouseWasNeverWet() {
        Scene s = new Scene().does(x -> x.level(0, 300)).due(0, x -> x.house(1, 0, 0, 1, 9));
        for (int w = 3; w < 8; w++) {
            int what = w;
            s.due(0, x -> x.about(0, what));
        }
    }

    static void promise23ANewHouseKnowsNothingOfOneThatTheImageTookBack() {
        Scene s = new Scene().island(0).does(x -> x.image()).does(x -> x.house(2, 0, 5, 1, 9))
            .does(x -> x.house(1, 0, 5, 1, 9)).does(x -> x.level(0, 6)).live(97).does(x -> x.restore());
        s.due(0, x -> x.house(0, 1, 7, 0, 0)).due(1, x -> x.house(0, 1, 7, 0, 0));
        int[] due = {0, 1, 7, 0, 0, 0, 0, 0};
        for (int w = 0; w < 8; w++) {
            int what = w;
            s.due(due[w], x -> x.about(0, what)).due(due[w], x -> x.about(1, what));
        }
    }

    // ---- Promise 24: raise

    static void promise24RaiseAnswersTheFloor() {
        new Scene().does(x -> x.house(0, 0, 5, 0, 0)).due(12, x -> x.raise(0, 7)).due(12, x -> x.about(0, 2));
    }

    static void promise24OneMoreIsTheLeast() {
        Scene.busy().due(4, x -> x.raise(0, 1)).due(4, x -> x.about(0, 2)).due(2, x -> x.about(1, 2));
    }

    static void promise24NoneOrLessIsWrong() {
        Scene.busy().refusedEach(-6, (x, n) -> x.raise(0, n), 0, -1, MIN);
    }

    static void promise24FiftyMoreIsTheMost() {
        Scene.busy().due(53, x -> x.raise(0, 50)).due(53, x -> x.about(0, 2));
    }

    static void promise24MoreThan50IsWrong() {
        Scene.busy().refusedEach(-6, (x, n) -> x.raise(0, n), 51, MAX);
    }

    private static Scene floor299() {
        return new Scene().does(x -> x.house(0, 0, 200, 0, 0)).due(250, x -> x.raise(0, 50))
            .due(299, x -> x.raise(0, 49));
    }

    static void promise24AFloorMayGoAbove200() {
        new Scene().does(x -> x.house(0, 0, 200, 0, 0)).due(201, x -> x.raise(0, 1));
    }

    static void promise24AFloorReaches300() {
        floor299().due(300, x -> x.raise(0, 1)).due(300, x -> x.about(0, 2));
    }

    static void promise24AFloorIs300AtMost() {
        floor299().due(300, x -> x.raise(0, 2)).due(300, x -> x.about(0, 2)).due(300, x -> x.raise(0, 50))
            .due(300, x -> x.about(0, 2));
    }

    static void promise24TheFirstAndTheLastHouse() {
        Scene.full().due(6, x -> x.raise(0, 1)).due(7, x -> x.raise(11, 2)).due(5, x -> x.about(10, 2));
    }

    static void promise24NoSuchHouse() {
        Scene.busy().refusedEach(-1, (x, n) -> x.raise(n, 1), -1, 3, MIN, MAX);
        Scene.full().refused(-1, x -> x.raise(12, 1));
        new Scene().refused(-1, x -> x.raise(0, 1));
    }

    static void promise24NobodyComesAheadOfWrong() {
        Scene.busy().refused(-1, x -> x.raise(3, 0)).refused(-1, x -> x.raise(-1, 51));
    }

    // ---- Promise 25: about

    static void promise25EachWhatTellsItsOwn() {
        // DAY 1 lets it sink, one more quarter lets it be wet again
        Scene s = new Scene().island(6).does(x -> x.house(1, 6, 9, 1, 4)).does(x -> x.level(6, 10)).live(97);
        int[] due = {1, 6, 9, 1, 97, 4 * 97, 0, 1};
        for (int w = 0; w < 8; w++) {
            int what = w;
            s.due(due[w], x -> x.about(0, what));
        }
    }

    static void promise25AWellTellsItsSalt() {
        new Scene().island(6).does(x -> x.house(2, 6, 9, 0, 4)).does(x -> x.level(6, 10)).live(3)
            .due(6, x -> x.about(0, 6)).due(0, x -> x.about(0, 5)).due(3, x -> x.about(0, 4));
    }

    static void promise25AHouseHasNoLossAndNoSalt() {
        new Scene().island(6).does(x -> x.house(0, 6, 9, 0, 4)).does(x -> x.level(6, 10)).live(3)
            .due(0, x -> x.about(0, 6)).due(0, x -> x.about(0, 5)).due(3, x -> x.about(0, 4));
    }

    static void promise25AShopHasNoSalt() {
        new Scene().island(6).does(x -> x.house(1, 6, 9, 0, 4)).does(x -> x.level(6, 10)).live(3)
            .due(0, x -> x.about(0, 6)).due(12, x -> x.about(0, 5));
    }

    static void promise25WetIsOfTheQuarterLivedLast() {
        new Scene().island(6).does(x -> x.house(0, 6, 9, 0, 0)).does(x -> x.level(6, 10)).due(0, x -> x.about(0, 7))
            .live(1).due(1, x -> x.about(0, 7)).does(x -> x.level(6, 0)).due(1, x -> x.about(0, 7)).live(1)
            .due(0, x -> x.about(0, 7)).due(1, x -> x.about(0, 4));
    }

    static void promise25NoSuchHouseIsNoneAndNoRefusal() {
        Scene.busy().dueEach(NONE, (x, n) -> x.about(n, 0), -1, 3, 11, 12, MIN, MAX);
        new Scene().due(NONE, x -> x.about(0, 0));
        Scene.full().due(NONE, x -> x.about(12, 0));
    }

    static void promise25AnotherWhatIsNoneAndNoRefusal() {
        Scene.busy().dueEach(NONE, (x, n) -> x.about(0, n), -1, 8, MIN, MAX).due(NONE, x -> x.about(3, 8));
    }

    static void promise25AskingChangesNothing() {
        Scene.busy().changesNothing(x -> x.about(0, 4)).changesNothing(x -> x.about(3, 8));
    }
}
