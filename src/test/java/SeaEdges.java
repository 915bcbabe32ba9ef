/** What the document says of the sea, the forecast and the rules at their edges: promises 16 to 18. */
final class SeaEdges {
    private static final int NONE = Scene.NONE;
    private static final int MIN = Scene.MIN;
    private static final int MAX = Scene.MAX;
    private static final int MISSING = 30;

    private SeaEdges() {
    }

    // ---- Promise 16: sea

    static void promise16AnswersTheSize() {
        Scene.busy().due(5, x -> x.sea(0, false)).due(2, x -> x.sea(3, true));
    }

    static void promise16ARowOf96() {
        Scene s = new Scene().due(1, x -> x.row(0, 1, 96)).due(1, x -> x.set(0, 95, 77)).due(1, x -> x.set(0, 0, 11));
        s.due(96, x -> x.sea(0, false)).due(77, x -> x.seaAt(95, false)).due(11, x -> x.seaAt(96, false));
    }

    static void promise16AnEmptyRowIsASeaToo() {
        Scene.busy().due(1, x -> x.row(0, 1, 0)).due(0, x -> x.sea(0, false)).due(0, x -> x.seaAt(0, false))
            .due(0, x -> x.seaAt(1, false)).due(70, x -> x.seaAt(0, true));
    }

    static void promise16TheSeaIsNotTheForecast() {
        new Scene().row(0, 1, 12).due(1, x -> x.sea(0, false)).due(12, x -> x.seaAt(0, false))
            .due(0, x -> x.seaAt(0, true));
    }

    static void promise16TheForecastIsNotTheSea() {
        new Scene().row(0, 1, 12).due(1, x -> x.sea(0, true)).due(12, x -> x.seaAt(0, true))
            .due(0, x -> x.seaAt(0, false));
    }

    static void promise16TheSeaIsTheRowAsItWasThen() {
        Scene.busy().due(1, x -> x.set(1, 0, 99)).due(60, x -> x.seaAt(0, false)).due(1, x -> x.row(1, 0, 0))
            .due(60, x -> x.seaAt(0, false)).due(0, x -> x.show(1, NONE)).due(-20, x -> x.seaAt(1, false));
    }

    static void promise16TheForecastIsTheRowAsItWasThen() {
        Scene.busy().due(1, x -> x.set(2, 0, 99)).due(70, x -> x.seaAt(0, true)).due(1, x -> x.show(2, 0))
            .due(70, x -> x.seaAt(0, true));
    }

    static void promise16TheLatestRowCounts() {
        Scene.busy().due(2, x -> x.sea(3, false)).due(9, x -> x.seaAt(0, false)).due(8, x -> x.seaAt(1, false))
            .due(9, x -> x.seaAt(2, false));
    }

    static void promise16TheFirstAndTheLastShelf() {
        new Scene().row(0, 1, 3).row(7, 1, 4).due(1, x -> x.sea(0, false)).due(1, x -> x.sea(7, true))
            .due(3, x -> x.seaAt(0, false)).due(4, x -> x.seaAt(0, true));
    }

    static void promise16NoSuchShelf() {
        Scene.busy().refusedEach(-1, (x, n) -> x.sea(n, false), -1, 8, MIN, MAX)
            .refusedEach(-1, (x, n) -> x.sea(n, true), -1, 8);
    }

    static void promise16AHouseIsOther() {
        Scene.busy().refused(-2, x -> x.sea(4, false)).refused(-2, x -> x.sea(5, true));
    }

    static void promise16NothingIsNothing() {
        Scene.busy().refused(-3, x -> x.sea(6, false)).refused(-3, x -> x.sea(6, true));
    }

    // ---- Promise 17: seaAt

    private static Scene height(int sort, long element, long due) {
        return new Scene().row(0, sort, element).due(1, x -> x.sea(0, false)).due(due, x -> x.seaAt(0, false))
            .due(1, x -> x.sea(0, true)).due(due, x -> x.seaAt(0, true));
    }

    static void promise17Quarter0IsTheFirst() {
        Scene.busy().due(60, x -> x.seaAt(0, false)).due(70, x -> x.seaAt(0, true));
    }

    static void promise17NoQuarterBelow0IsAThousandAndNoRefusal() {
        Scene.busy().dueEach(1000, (x, n) -> x.seaAt(n, false), -1, -96, MIN)
            .dueEach(1000, (x, n) -> x.seaAt(n, true), -1, -96, MIN);
    }

    static void promise17NoQuarterBelow0WithoutASea() {
        new Scene().due(1000, x -> x.seaAt(-1, false)).due(1000, x -> x.seaAt(-1, true));
    }

    static void promise17TheRowComesRoundAgain() {
        Scene.busy().due(35, x -> x.seaAt(2, false)).due(60, x -> x.seaAt(3, false)).due(-20, x -> x.seaAt(4, false))
            .due(5, x -> x.seaAt(3, true)).due(70, x -> x.seaAt(4, true));
    }

    static void promise17ARowOfOneIsInEveryQuarter() {
        new Scene().sea(17).dueEach(17, (x, n) -> x.seaAt(n, false), 0, 1, 95, 96, 20_000, MAX);
    }

    static void promise17ARowOf96ComesRoundIn96() {
        Scene s = new Scene().due(1, x -> x.row(0, 1, 96)).due(1, x -> x.set(0, 0, 5)).due(1, x -> x.set(0, 95, 6));
        s.due(96, x -> x.sea(0, false)).due(5, x -> x.seaAt(0, false)).due(6, x -> x.seaAt(95, false))
            .due(5, x -> x.seaAt(96, false)).due(0, x -> x.seaAt(97, false)).due(6, x -> x.seaAt(191, false));
    }

    static void promise17QuartersUpToTheEndOfInt() {
        // 2,147,483,647 is 1 modulo 3, and 3 modulo 4
        Scene.busy().due(-20, x -> x.seaAt(MAX, false)).due(5, x -> x.seaAt(MAX, true));
    }

    static void promise17QuartersBeyondTheLastThatIsLived() {
        // 20,000 is 2 modulo 3
        Scene.busy().due(35, x -> x.seaAt(20_000, false)).due(60, x -> x.seaAt(20_001, false));
    }

    static void promise17KeptAt300() {
        height(1, 299, 299);
        height(1, 300, 300);
        height(1, 301, 300);
        height(1, 32_767, 300);
        height(2, MAX, 300);
    }

    static void promise17KeptAtMinus300() {
        height(1, -299, -299);
        height(1, -300, -300);
        height(1, -301, -300);
    }

    static void promise17TheLeastByteIsMissing() {
        height(0, -128, MISSING);
        height(0, -127, -127);
    }

    static void promise17TheLeastShortIsMissing() {
        height(1, -32_768, MISSING);
        height(1, -32_767, -300);
    }

    static void promise17TheLeastIntIsMissing() {
        height(2, MIN, MISSING);
        height(2, MIN + 1, -300);
    }

    static void promise17TheLeastLongIsMissing() {
        height(3, Long.MIN_VALUE, MISSING);
        height(3, Long.MIN_VALUE + 1, 1);
    }

    static void promise17TheLeastOfALesserSortIsNotMissing() {
        height(1, -128, -128);
        height(2, -128, -128);
        height(3, -128, -128);
        height(2, -32_768, -300);
        height(3, -32_768, -300);
        height(3, MIN, -300);
    }

    static void promise17WhatBecomesTheLeastWhenItIsPutInIsMissing() {
        height(0, 128, MISSING);
        height(1, 32_768, MISSING);
        height(2, 1L << 31, MISSING);
    }

    static void promise17OfLongsTheLowest32BitsCount() {
        height(3, 1L << 32, 0);
        height(3, (1L << 32) + 17, 17);
        height(3, (1L << 32) - 1, -1);
        height(3, 1L << 31, -300);
        height(3, Long.MAX_VALUE, -1);
        height(3, -(1L << 32) + 5, 5);
    }

    static void promise17MissingInOneQuarterOnly() {
        new Scene().row(0, 1, 7, -32_768, 9).does(x -> x.sea(0, false)).due(7, x -> x.seaAt(0, false))
            .due(30, x -> x.seaAt(1, false)).due(9, x -> x.seaAt(2, false)).due(30, x -> x.seaAt(4, false));
    }

    static void promise17NoSeaIs0() {
        new Scene().dueEach(0, (x, n) -> x.seaAt(n, false), 0, 1, 20_000, MAX)
            .dueEach(0, (x, n) -> x.seaAt(n, true), 0, 1, 20_000, MAX);
    }

    static void promise17AnEmptySeaIs0() {
        new Scene().sea(5).due(1, x -> x.row(0, 0, 0)).due(0, x -> x.sea(0, false))
            .dueEach(0, (x, n) -> x.seaAt(n, false), 0, 1, MAX).due(1000, x -> x.seaAt(-1, false));
    }

    static void promise17AskingChangesNothing() {
        Scene.busy().changesNothing(x -> x.seaAt(3, true)).changesNothing(x -> x.seaAt(-1, false));
    }

    // ---- Promise 18: rule

    static void promise18RulesAnswerWhatTheyWere() {
        new Scene().due(0, x -> x.rule(0, 5)).due(5, x -> x.rule(0, 6)).due(9, x -> x.rule(1, 5))
            .due(5, x -> x.rule(1, 6)).due(0, x -> x.rule(2, 5)).due(5, x -> x.rule(2, 6)).due(6, x -> x.rule(0, 0));
    }

    static void promise18MissIsFrom0To99() {
        new Scene().due(0, x -> x.rule(0, 99)).due(99, x -> x.rule(0, 0)).due(0, x -> x.rule(0, 1));
    }

    static void promise18MissBelow0OrAbove99IsWrong() {
        Scene.busy().refusedEach(-6, (x, n) -> x.rule(0, n), -1, 100, MIN, MAX);
    }

    static void promise18LimitIsFrom1To9() {
        new Scene().due(9, x -> x.rule(1, 1)).due(1, x -> x.rule(1, 9)).due(9, x -> x.rule(1, 2));
    }

    static void promise18LimitBelow1OrAbove9IsWrong() {
        Scene.busy().refusedEach(-6, (x, n) -> x.rule(1, n), 0, -1, 10, MIN, MAX);
    }

    static void promise18CalmIsFrom0To9999() {
        new Scene().due(0, x -> x.rule(2, 9_999)).due(9_999, x -> x.rule(2, 0)).due(0, x -> x.rule(2, 1));
    }

    static void promise18CalmBelow0OrAbove9999IsWrong() {
        Scene.busy().refusedEach(-6, (x, n) -> x.rule(2, n), -1, 10_000, MIN, MAX);
    }

    static void promise18AnotherRuleIsWrong() {
        Scene.busy().refusedEach(-6, (x, n) -> x.rule(n, 5), -1, 3, MIN, MAX);
    }

    static void promise18AnotherRuleWithAnotherNumberIsWrongOnce() {
        Scene.busy().refused(-6, x -> x.rule(3, -1)).refused(-6, x -> x.rule(-1, 10_000));
    }
}
