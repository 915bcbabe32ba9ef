/** What the document says of shelves, rows and houses on shelves at their edges: promises 9 to 15. */
final class ShelfEdges {
    private static final int NONE = Scene.NONE;
    private static final int MIN = Scene.MIN;
    private static final int MAX = Scene.MAX;

    private ShelfEdges() {
    }

    // ---- Promise 9: row

    static void promise9ARowOf0Elements() {
        new Scene().due(1, x -> x.row(3, 2, 0)).due(102, x -> x.holds(3)).refused(-5, x -> x.set(3, 0, 1));
    }

    static void promise9ARowOf96Elements() {
        new Scene().due(1, x -> x.row(3, 2, 96)).due(1, x -> x.set(3, 95, 7)).due(7, x -> x.element(3, 95))
            .refused(-5, x -> x.set(3, 96, 7));
    }

    static void promise9MoreThan96AreRoom() {
        Scene.busy().refusedEach(-7, (x, n) -> x.row(0, 3, n), 97, 98, MAX);
    }

    static void promise9ASizeBelow0IsBelow() {
        Scene.busy().refusedEach(-4, (x, n) -> x.row(0, 3, n), -1, MIN);
    }

    static void promise9Sort0IsTheFirst() {
        new Scene().due(1, x -> x.row(3, 0, 5)).due(100, x -> x.holds(3));
    }

    static void promise9Sort3IsTheLast() {
        new Scene().due(1, x -> x.row(3, 3, 5)).due(103, x -> x.holds(3));
    }

    static void promise9AnotherSortIsWrong() {
        Scene.busy().refusedEach(-6, (x, n) -> x.row(0, n, 5), -1, 4, MIN, MAX);
    }

    static void promise9TheFirstShelfIs0() {
        new Scene().due(1, x -> x.row(0, 1, 5)).due(101, x -> x.holds(0)).due(NONE, x -> x.holds(1));
    }

    static void promise9TheLastShelfIs7() {
        new Scene().due(1, x -> x.row(7, 1, 5)).due(101, x -> x.holds(7)).due(NONE, x -> x.holds(6));
    }

    static void promise9NoSuchShelf() {
        Scene.busy().refusedEach(-1, (x, n) -> x.row(n, 0, 1), -1, 8, MIN, MAX);
    }

    static void promise9NobodyComesAheadOfBelow() {
        Scene.busy().refused(-1, x -> x.row(8, 0, -1)).refused(-1, x -> x.row(-1, 4, -1));
    }

    static void promise9NobodyComesAheadOfWrongAndRoom() {
        Scene.busy().refused(-1, x -> x.row(8, 4, 1)).refused(-1, x -> x.row(8, 0, 97));
    }

    static void promise9BelowComesAheadOfWrong() {
        Scene.busy().refused(-4, x -> x.row(0, 4, -1)).refused(-4, x -> x.row(0, -1, MIN));
    }

    static void promise9WrongComesAheadOfRoom() {
        Scene.busy().refused(-6, x -> x.row(0, 4, 97)).refused(-6, x -> x.row(0, -1, MAX));
    }

    static void promise9ARefusedRowLeavesWhatTheShelfHolds() {
        Scene.busy().refused(-7, x -> x.row(0, 0, 97)).due(5, x -> x.element(0, 4)).refused(-6, x -> x.row(4, 4, 1))
            .due(0, x -> x.holds(4)).refused(-4, x -> x.row(6, 0, -1)).due(NONE, x -> x.holds(6));
    }

    static void promise9ElementsAre0AtFirst() {
        Scene s = new Scene().due(1, x -> x.row(0, 3, 96));
        for (int i = 0; i < 96; i++) {
            int at = i;
            s.due(0, x -> x.element(0, at));
        }
    }

    static void promise9ElementsOfANewRowAre0WhereAnotherWas() {
        new Scene().row(0, 3, 1, 2, 3).due(1, x -> x.row(0, 3, 3)).due(0, x -> x.element(0, 0))
            .due(0, x -> x.element(0, 2));
    }

    static void promise9ElementsOfALongerRowAre0WhereAnotherWas() {
        new Scene().row(0, 3, 1, 2, 3).due(1, x -> x.row(0, 3, 1)).due(1, x -> x.row(0, 3, 3))
            .due(0, x -> x.element(0, 2));
    }

    static void promise9ANewRowComesInPlaceOfAHouse() {
        Scene.busy().due(1, x -> x.row(4, 1, 2)).due(101, x -> x.holds(4)).refused(-2, x -> x.harm(4, 0));
    }

    // ---- Promise 10: set

    static void promise10ByteKeepsItsLowest8Bits() {
        long[] given = {127, 128, 255, 256, -128, -129, Long.MAX_VALUE, Long.MIN_VALUE};
        long[] kept = {127, -128, -1, 0, -128, 127, -1, 0};
        keeps(0, given, kept);
    }

    static void promise10ShortKeepsItsLowest16Bits() {
        long[] given = {32_767, 32_768, 65_535, 65_536, -32_768, -32_769, Long.MAX_VALUE, Long.MIN_VALUE};
        long[] kept = {32_767, -32_768, -1, 0, -32_768, 32_767, -1, 0};
        keeps(1, given, kept);
    }

    static void promise10IntKeepsItsLowest32Bits() {
        long[] given = {MAX, MAX + 1L, (1L << 32) - 1, 1L << 32, MIN, MIN - 1L, Long.MAX_VALUE, Long.MIN_VALUE};
        long[] kept = {MAX, MIN, -1, 0, MIN, MAX, -1, 0};
        keeps(2, given, kept);
    }

    static void promise10LongKeepsAllItsBits() {
        long[] given = {Long.MAX_VALUE, Long.MIN_VALUE, 1L << 32, -1, MIN - 1L};
        keeps(3, given, given);
    }

    private static void keeps(int sort, long[] given, long[] kept) {
        Scene s = new Scene().due(1, x -> x.row(2, sort, 3));
        for (int i = 0; i < given.length; i++) {
            int at = i;
            s.due(1, x -> x.set(2, 1, given[at])).due(kept[i], x -> x.element(2, 1));
        }
        s.due(0, x -> x.element(2, 0)).due(0, x -> x.element(2, 2));
    }

    static void promise10TheFirstElementIs0() {
        Scene.busy().due(1, x -> x.set(0, 0, 99)).due(99, x -> x.element(0, 0)).due(-2, x -> x.element(0, 1));
    }

    static void promise10TheLastElement() {
        Scene.busy().due(1, x -> x.set(0, 4, 99)).due(99, x -> x.element(0, 4)).due(-4, x -> x.element(0, 3));
    }

    static void promise10ElementsBelow0AreBeyond() {
        Scene.busy().refusedEach(-5, (x, n) -> x.set(0, n, 1), -1, MIN);
    }

    static void promise10ElementsBehindTheLastAreBeyond() {
        Scene.busy().refusedEach(-5, (x, n) -> x.set(0, n, 1), 5, 6, 95, 96, MAX);
    }

    static void promise10NoElementOf96IsBeyondIn96() {
        new Scene().due(1, x -> x.row(0, 0, 96)).due(1, x -> x.set(0, 95, 1)).refused(-5, x -> x.set(0, 96, 1));
    }

    static void promise10AnEmptyRowHasNoElement() {
        Scene.busy().due(1, x -> x.row(0, 0, 0)).refusedEach(-5, (x, n) -> x.set(0, n, 1), 0, -1, 1);
    }

    static void promise10AShelfThatHoldsAHouseIsOther() {
        Scene.busy().refused(-2, x -> x.set(4, 0, 1)).refused(-2, x -> x.set(5, 0, 1));
    }

    static void promise10AShelfThatHoldsNothing() {
        Scene.busy().refused(-3, x -> x.set(6, 0, 1));
    }

    static void promise10NoSuchShelf() {
        Scene.busy().refusedEach(-1, (x, n) -> x.set(n, 0, 1), -1, 8, MIN, MAX);
    }

    static void promise10NobodyComesAheadOfBeyond() {
        Scene.busy().refused(-1, x -> x.set(8, -1, 1)).refused(-1, x -> x.set(-1, 96, 1));
    }

    static void promise10OtherComesAheadOfBeyond() {
        Scene.busy().refused(-2, x -> x.set(4, -1, 1)).refused(-2, x -> x.set(4, 96, 1));
    }

    static void promise10NothingComesAheadOfBeyond() {
        Scene.busy().refused(-3, x -> x.set(6, -1, 1)).refused(-3, x -> x.set(6, 96, 1));
    }

    // ---- Promise 11: copy

    private static Scene twoRows() {
        return Scene.busy().row(0, 2, 1, 2, 3, 4, 5, 6).row(1, 2, 7, 8, 9);
    }

    private static Scene holdsThese(Scene s, int shelf, long... elements) {
        for (int i = 0; i < elements.length; i++) {
            int at = i;
            s.due(elements[i], x -> x.element(shelf, at));
        }
        return s;
    }

    static void promise11ElementsComeToTheOtherRow() {
        Scene s = twoRows().due(1, x -> x.copy(0, 1, 3, 1, 2));
        holdsThese(s, 1, 7, 4, 5);
        holdsThese(s, 0, 1, 2, 3, 4, 5, 6);
    }

    static void promise11FromTheFirstToTheLast() {
        Scene s = twoRows().due(1, x -> x.copy(0, 1, 0, 0, 3));
        holdsThese(s, 1, 1, 2, 3);
    }

    static void promise11UpToBothEnds() {
        Scene s = twoRows().due(1, x -> x.copy(0, 1, 5, 2, 1));
        holdsThese(s, 1, 7, 8, 6);
    }

    static void promise11NoneIsNotBelow() {
        Scene s = twoRows().due(1, x -> x.copy(0, 1, 0, 0, 0));
        holdsThese(s, 1, 7, 8, 9);
    }

    static void promise11NoneAtBothEnds() {
        Scene s = twoRows().due(1, x -> x.copy(0, 1, 6, 3, 0));
        holdsThese(s, 1, 7, 8, 9);
    }

    static void promise11NoneBehindAnEndIsBeyond() {
        twoRows().refused(-5, x -> x.copy(0, 1, 7, 0, 0)).refused(-5, x -> x.copy(0, 1, 0, 4, 0))
            .refused(-5, x -> x.copy(0, 1, MAX, MAX, 0));
    }

    static void promise11NoneBetweenEmptyRows() {
        new Scene().row(0, 1).row(1, 1).due(1, x -> x.copy(0, 1, 0, 0, 0)).refused(-5, x -> x.copy(0, 1, 0, 0, 1))
            .refused(-5, x -> x.copy(0, 1, 1, 0, 0)).refused(-5, x -> x.copy(0, 1, 0, 1, 0));
    }

    static void promise11All96() {
        Scene s = new Scene().due(1, x -> x.row(0, 3, 96)).due(1, x -> x.row(1, 3, 96)).due(1, x -> x.set(0, 0, MIN))
            .due(1, x -> x.set(0, 95, Long.MAX_VALUE)).due(1, x -> x.copy(0, 1, 0, 0, 96));
        s.due(MIN, x -> x.element(1, 0)).due(Long.MAX_VALUE, x -> x.element(1, 95));
        s.refused(-5, x -> x.copy(0, 1, 0, 0, 97));
    }

    static void promise11ToALaterPlaceOfItsOwnAsTheyWereAhead() {
        Scene s = twoRows().due(1, x -> x.copy(0, 0, 0, 1, 5));
        holdsThese(s, 0, 1, 1, 2, 3, 4, 5);
    }

    static void promise11ToAnEarlierPlaceOfItsOwnAsTheyWereAhead() {
        Scene s = twoRows().due(1, x -> x.copy(0, 0, 1, 0, 5));
        holdsThese(s, 0, 2, 3, 4, 5, 6, 6);
    }

    static void promise11IBelow0IsBeyond() {
        twoRows().refusedEach(-5, (x, n) -> x.copy(0, 1, n, 0, 1), -1, MIN).refused(-5, x -> x.copy(0, 1, -1, 0, 0));
    }

    static void promise11JBelow0IsBeyond() {
        twoRows().refusedEach(-5, (x, n) -> x.copy(0, 1, 0, n, 1), -1, MIN).refused(-5, x -> x.copy(0, 1, 0, -1, 0));
    }

    static void promise11AnEndThatIsNotThereInTheFirst() {
        twoRows().refused(-5, x -> x.copy(0, 1, 5, 0, 2)).refused(-5, x -> x.copy(0, 1, 6, 0, 1))
            .refused(-5, x -> x.copy(1, 0, 1, 0, 3));
    }

    static void promise11AnEndThatIsNotThereInTheSecond() {
        twoRows().refused(-5, x -> x.copy(0, 1, 0, 2, 2)).refused(-5, x -> x.copy(0, 1, 0, 3, 1))
            .refused(-5, x -> x.copy(0, 1, 0, 0, 4));
    }

    static void promise11AnEndBeyondTheInts() {
        twoRows().refused(-5, x -> x.copy(0, 1, 1, 1, MAX)).refused(-5, x -> x.copy(0, 1, MAX, 0, 1))
            .refused(-5, x -> x.copy(0, 1, 0, MAX, 1)).refused(-5, x -> x.copy(0, 1, MAX, MAX, MAX))
            .refused(-5, x -> x.copy(0, 1, MIN, MIN, MAX));
    }

    static void promise11ANumberBelow0IsBelow() {
        twoRows().refusedEach(-4, (x, n) -> x.copy(0, 1, 1, 1, n), -1, MIN);
    }

    static void promise11BelowComesAheadOfBeyond() {
        twoRows().refused(-4, x -> x.copy(0, 1, -1, 0, -1)).refused(-4, x -> x.copy(0, 1, 9, 9, -1));
    }

    static void promise11RowsOfTwoSortsAreOther() {
        twoRows().refused(-2, x -> x.copy(0, 3, 0, 0, 1)).refused(-2, x -> x.copy(3, 0, 0, 0, 1))
            .refused(-2, x -> x.copy(7, 1, 0, 0, 0));
    }

    static void promise11RowsOfOneSortAreNotOther() {
        for (int n = 0; n < 4; n++) {
            int sort = n;
            new Scene().row(0, sort, 5).row(1, sort, 6).due(1, x -> x.copy(0, 1, 0, 0, 1))
                .due(5, x -> x.element(1, 0));
        }
    }

    static void promise11AHouseIsOther() {
        twoRows().refused(-2, x -> x.copy(4, 0, 0, 0, 1)).refused(-2, x -> x.copy(0, 4, 0, 0, 1))
            .refused(-2, x -> x.copy(4, 5, 0, 0, 1)).refused(-2, x -> x.copy(4, 4, 0, 0, 1));
    }

    static void promise11NothingOnEitherShelf() {
        twoRows().refused(-3, x -> x.copy(6, 0, 0, 0, 1)).refused(-3, x -> x.copy(0, 6, 0, 0, 1))
            .refused(-3, x -> x.copy(6, 6, 0, 0, 1));
    }

    static void promise11NoSuchShelf() {
        twoRows().refusedEach(-1, (x, n) -> x.copy(n, 0, 0, 0, 1), -1, 8, MIN, MAX)
            .refusedEach(-1, (x, n) -> x.copy(0, n, 0, 0, 1), -1, 8, MIN, MAX);
    }

    static void promise11NobodyComesAheadOfOther() {
        twoRows().refused(-1, x -> x.copy(4, 8, 0, 0, 1)).refused(-1, x -> x.copy(-1, 4, 0, 0, 1));
    }

    static void promise11NobodyComesAheadOfNothingBelowAndBeyond() {
        twoRows().refused(-1, x -> x.copy(6, 8, 0, 0, 1)).refused(-1, x -> x.copy(8, 0, 0, 0, -1))
            .refused(-1, x -> x.copy(0, -1, -1, 0, 1));
    }

    static void promise11OtherComesAheadOfNothing() {
        twoRows().refused(-2, x -> x.copy(6, 4, 0, 0, 1)).refused(-2, x -> x.copy(4, 6, 0, 0, 1));
    }

    static void promise11OtherComesAheadOfBelowAndBeyond() {
        twoRows().refused(-2, x -> x.copy(0, 3, 0, 0, -1)).refused(-2, x -> x.copy(0, 3, -1, 0, 1))
            .refused(-2, x -> x.copy(4, 0, 9, 9, -1));
    }

    static void promise11NothingComesAheadOfBelowAndBeyond() {
        twoRows().refused(-3, x -> x.copy(6, 0, 0, 0, -1)).refused(-3, x -> x.copy(0, 6, -1, 99, 1));
    }

    // ---- Promise 12: element

    static void promise12TheFirstAndTheLastElement() {
        Scene.busy().due(1, x -> x.element(0, 0)).due(5, x -> x.element(0, 4));
    }

    static void promise12NumbersAtTheEndsOfLong() {
        new Scene().row(0, 3, Long.MIN_VALUE, Long.MAX_VALUE).due(Long.MIN_VALUE, x -> x.element(0, 0))
            .due(Long.MAX_VALUE, x -> x.element(0, 1));
    }

    static void promise12NoSuchElementIs0AndNoRefusal() {
        Scene.busy().dueEach(0, (x, n) -> x.element(0, n), -1, 5, 95, 96, MIN, MAX);
    }

    static void promise12NoElement96In96() {
        new Scene().due(1, x -> x.row(0, 0, 96)).due(1, x -> x.set(0, 95, 3)).due(3, x -> x.element(0, 95))
            .due(0, x -> x.element(0, 96));
    }

    static void promise12AnElementOfALongerRowThatWasThereIs0() {
        new Scene().row(0, 3, 5, 6, 7).due(1, x -> x.row(0, 3, 1)).due(0, x -> x.element(0, 1))
            .due(0, x -> x.element(0, 2));
    }

    static void promise12NoSuchShelfIs0AndNoRefusal() {
        Scene.busy().dueEach(0, (x, n) -> x.element(n, 0), -1, 8, MIN, MAX);
    }

    static void promise12AHouseHasNoElement() {
        Scene.busy().due(0, x -> x.element(4, 0)).due(1, x -> x.show(0, 2)).due(0, x -> x.element(0, 0));
    }

    static void promise12NothingHasNoElement() {
        Scene.busy().due(0, x -> x.element(6, 0)).due(0, x -> x.show(0, NONE)).due(0, x -> x.element(0, 0));
    }

    static void promise12AskingChangesNothing() {
        Scene.busy().changesNothing(x -> x.element(0, 1)).changesNothing(x -> x.element(8, -1));
    }

    // ---- Promise 13: show

    static void promise13AHouseIsShown() {
        Scene.busy().due(1, x -> x.show(6, 2)).due(2, x -> x.holds(6));
    }

    static void promise13TheFirstAndTheLastHouse() {
        Scene.full().due(1, x -> x.show(0, 0)).due(1, x -> x.show(7, 11)).due(0, x -> x.holds(0))
            .due(11, x -> x.holds(7));
    }

    static void promise13NoneLeavesNothing() {
        Scene.busy().due(0, x -> x.show(4, NONE)).due(NONE, x -> x.holds(4)).refused(-3, x -> x.harm(4, 0));
    }

    static void promise13NoneOnAShelfThatHoldsNothing() {
        Scene.busy().due(0, x -> x.show(6, NONE)).due(NONE, x -> x.holds(6));
    }

    static void promise13NoneInPlaceOfARow() {
        Scene.busy().due(0, x -> x.show(0, NONE)).due(NONE, x -> x.holds(0)).refused(-3, x -> x.set(0, 0, 1));
    }

    static void promise13AHouseInPlaceOfARow() {
        Scene.busy().due(1, x -> x.show(0, 1)).due(1, x -> x.holds(0)).refused(-2, x -> x.set(0, 0, 1));
    }

    static void promise13OneHouseOnSeveralShelves() {
        Scene.busy().due(1, x -> x.show(6, 0)).due(0, x -> x.holds(4)).due(0, x -> x.holds(6));
    }

    static void promise13NoSuchHouse() {
        Scene.busy().refusedEach(-1, (x, n) -> x.show(0, n), 3, 11, MAX);
    }

    static void promise13NoHouseBelowNone() {
        Scene.busy().refusedEach(-1, (x, n) -> x.show(4, n), -2, MIN);
    }

    static void promise13NoHouseBeyond11InAFullCity() {
        Scene.full().refusedEach(-1, (x, n) -> x.show(0, n), 12, 13);
    }

    static void promise13NoHouseAtAll() {
        new Scene().refused(-1, x -> x.show(0, 0)).due(0, x -> x.show(0, NONE));
    }

    static void promise13NoSuchShelf() {
        Scene.busy().refusedEach(-1, (x, n) -> x.show(n, 0), -1, 8, MIN, MAX)
            .refusedEach(-1, (x, n) -> x.show(n, NONE), -1, 8).refused(-1, x -> x.show(8, 3));
    }

    // ---- Promise 14: holds

    static void promise14ARowIs100AndItsSort() {
        Scene.busy().due(100, x -> x.holds(0)).due(101, x -> x.holds(1)).due(102, x -> x.holds(2))
            .due(103, x -> x.holds(3));
    }

    static void promise14AnEmptyRowIsARow() {
        new Scene().due(1, x -> x.row(0, 2, 0)).due(102, x -> x.holds(0));
    }

    static void promise14AHouseIsItsNumber() {
        Scene.full().due(1, x -> x.show(0, 0)).due(1, x -> x.show(1, 11)).due(0, x -> x.holds(0))
            .due(11, x -> x.holds(1));
    }

    static void promise14NothingIsNone() {
        Scene.busy().due(NONE, x -> x.holds(6));
    }

    static void promise14EveryShelfHoldsNothingAtFirst() {
        new Scene().dueEach(NONE, WaterCity::holds, 0, 1, 2, 3, 4, 5, 6, 7);
    }

    static void promise14NoSuchShelfIsNoneAndNoRefusal() {
        Scene.busy().dueEach(NONE, WaterCity::holds, -1, 8, MIN, MAX);
    }

    static void promise14AskingChangesNothing() {
        Scene.busy().changesNothing(x -> x.holds(4)).changesNothing(x -> x.holds(8));
    }

    // ---- Promise 15: harm

    /** A house, a shop (goods 7) and a well, WET for 3 quarters, on shelves 0 to 2; a row on 3, nothing on 4. */
    private static Scene harmed() {
        Scene s = new Scene().island(0).does(x -> x.house(0, 0, 0, 0, 50)).does(x -> x.house(1, 0, 0, 0, 7))
            .does(x -> x.house(2, 0, 0, 0, 50)).does(x -> x.level(0, 1)).live(3);
        return s.does(x -> x.show(0, 0)).does(x -> x.show(1, 1)).does(x -> x.show(2, 2)).row(3, 0, 1);
    }

    static void promise15AHouseHasItsWetQuarters() {
        harmed().due(3, x -> x.harm(0, 0));
    }

    static void promise15AShopHasItsLoss() {
        harmed().due(21, x -> x.harm(1, 1));
    }

    static void promise15AWellHasItsSalt() {
        harmed().due(6, x -> x.harm(2, 2));
    }

    static void promise15AShopCanBeTakenForAHouse() {
        harmed().due(3, x -> x.harm(1, 0));
    }

    static void promise15AWellCanBeTakenForAHouse() {
        harmed().due(3, x -> x.harm(2, 0));
    }

    static void promise15AHouseIsNoShopAndNoWell() {
        harmed().refused(-2, x -> x.harm(0, 1)).refused(-2, x -> x.harm(0, 2));
    }

    static void promise15AShopIsNoWell() {
        harmed().refused(-2, x -> x.harm(1, 2));
    }

    static void promise15AWellIsNoShop() {
        harmed().refused(-2, x -> x.harm(2, 1));
    }

    static void promise15ARowIsOther() {
        harmed().refused(-2, x -> x.harm(3, 0)).refused(-2, x -> x.harm(3, 1)).refused(-2, x -> x.harm(3, 2));
    }

    static void promise15AnEmptyRowIsOther() {
        harmed().due(1, x -> x.row(4, 0, 0)).refused(-2, x -> x.harm(4, 0));
    }

    static void promise15NothingIsNothing() {
        harmed().refused(-3, x -> x.harm(4, 0)).refused(-3, x -> x.harm(4, 1)).refused(-3, x -> x.harm(7, 2));
    }

    static void promise15NoSuchShelf() {
        harmed().refusedEach(-1, (x, n) -> x.harm(n, 0), -1, 8, MIN, MAX);
    }

    static void promise15NoSuchKind() {
        harmed().refusedEach(-1, (x, n) -> x.harm(0, n), -1, 3, MIN, MAX);
    }

    static void promise15NobodyComesAheadOfOther() {
        harmed().refused(-1, x -> x.harm(3, 3)).refused(-1, x -> x.harm(3, -1));
    }

    static void promise15NobodyComesAheadOfNothing() {
        harmed().refused(-1, x -> x.harm(4, 3)).refused(-1, x -> x.harm(4, -1));
    }

    static void promise15WhatItHasIsAsThingsAre() {
        harmed().live(2).due(5, x -> x.harm(0, 0)).due(35, x -> x.harm(1, 1)).due(10, x -> x.harm(2, 2));
    }
}
