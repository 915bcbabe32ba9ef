/** What the document says of the image at its edges: promises 35 and 36. */
final class ImageEdges {
    private static final int NONE = Scene.NONE;

    private ImageEdges() {
    }

    // ---- Promise 35: image

    static void promise35AnswersNow() {
        new Scene().due(0, x -> x.image()).live(7).due(7, x -> x.image());
        Scene.late(0).due(20_000, x -> x.image());
    }

    static void promise35TheLatestImageCounts() {
        new Scene().does(x -> x.depth(3, 4)).does(x -> x.image()).does(x -> x.depth(3, 5)).does(x -> x.image())
            .does(x -> x.depth(3, 6)).due(0, x -> x.restore()).due(5, x -> x.cell(3, 0));
    }

    static void promise35TakingItLeavesAllAsItIs() {
        Scene s = Scene.busy().due(5, x -> x.image()).due(5, x -> x.status(7));
        s.due(44, x -> x.cell(3, 0)).due(7, x -> x.cell(20, 1)).due(3, x -> x.fault());
    }

    static void promise35ShelvesAreNoPartOfIt() {
        new Scene().row(0, 1, 5, 6).does(x -> x.image()).due(1, x -> x.set(0, 0, 9)).row(1, 2, 7).does(x -> x.restore())
            .due(9, x -> x.element(0, 0)).due(6, x -> x.element(0, 1)).due(102, x -> x.holds(1))
            .due(7, x -> x.element(1, 0));
    }

    static void promise35AShelfThatWasEmptiedStaysEmpty() {
        new Scene().row(0, 1, 5, 6).does(x -> x.house(0, 0, 0, 0, 0)).does(x -> x.show(1, 0)).does(x -> x.image())
            .due(0, x -> x.show(0, NONE)).due(0, x -> x.show(1, NONE)).does(x -> x.restore()).due(NONE, x -> x.holds(0))
            .due(NONE, x -> x.holds(1));
    }

    static void promise35RefusalsAreNoPartOfIt() {
        new Scene().refused(-6, x -> x.restore()).does(x -> x.image()).refused(-6, x -> x.quarters(0))
            .refused(-1, x -> x.depth(25, 0)).does(x -> x.restore()).due(1, x -> x.status(11))
            .due(2, x -> x.status(16));
    }

    static void promise35TheFaultIsNoPartOfIt() {
        new Scene().does(x -> x.image()).letters(0, 0, "g0:x").refusedHere(-6, x -> x.law(0)).does(x -> x.restore())
            .due(3, x -> x.fault());
    }

    static void promise35TheImageIsNoPartOfIt() {
        // an image does not bring back the image that was ahead of it
        new Scene().does(x -> x.depth(3, 4)).does(x -> x.image()).does(x -> x.depth(3, 5)).does(x -> x.image())
            .does(x -> x.restore()).does(x -> x.depth(3, 6)).does(x -> x.restore()).due(5, x -> x.cell(3, 0));
    }

    // ---- Promise 36: restore

    static void promise36WithoutAnImageIsWrong() {
        new Scene().refused(-6, x -> x.restore()).refused(-6, x -> x.restore());
        Scene.full().due(0, x -> x.restore());
    }

    static void promise36AnswersNow() {
        new Scene().live(7).does(x -> x.image()).live(2).due(7, x -> x.restore()).due(7, x -> x.status(7));
    }

    static void promise36TheLastQuarterCanBeTakenBack() {
        Scene.late(1).does(x -> x.image()).live(1).refusedHere(-7, x -> x.quarters(1)).due(19_999, x -> x.restore())
            .due(20_000, x -> x.quarters(1));
    }

    static void promise36TheImageCanBeRestoredAgain() {
        Scene.busy().due(3, x -> x.restore()).live(9).due(3, x -> x.restore()).does(x -> x.depth(3, 1))
            .due(3, x -> x.restore()).due(20, x -> x.cell(3, 0));
    }

    static void promise36RestoringTwiceIsRestoringOnce() {
        Scene.busy().does(x -> x.restore()).changesNothing(x -> x.restore());
    }

    static void promise36RestoringAtOnceChangesNothing() {
        Scene.busy().does(x -> x.image()).changesNothing(x -> x.restore());
    }

    static void promise36CellsAreAsTheyWere() {
        new Scene().pair(0, 1).does(x -> x.level(0, 8)).does(x -> x.depth(1, 9)).does(x -> x.boat(0, 1, 1, 9, 0))
            .does(x -> x.goal(0, 1)).live(1).does(x -> x.image()).does(x -> x.level(0, -8)).does(x -> x.depth(1, 60))
            .does(x -> x.goal(0, 0)).live(1).does(x -> x.restore()).due(6, x -> x.cell(0, 1)).due(9, x -> x.cell(1, 0))
            .due(1000, x -> x.cell(0, 2)).due(980, x -> x.cell(1, 2)).due(2, x -> x.cell(0, 3))
            .due(8, x -> x.status(18));
    }

    static void promise36WaysAreAsTheyWere() {
        new Scene().does(x -> x.close(0, 1, true)).does(x -> x.narrow(1, 2, true)).does(x -> x.bridge(19, 24, 7))
            .does(x -> x.image()).does(x -> x.close(0, 1, false)).does(x -> x.close(23, 24, true))
            .does(x -> x.narrow(1, 2, false)).does(x -> x.narrow(19, 24, true)).does(x -> x.bridge(19, 24, 8))
            .does(x -> x.restore()).due(1, x -> x.way(0, 1, 0)).due(0, x -> x.way(23, 24, 0))
            .due(1, x -> x.way(1, 2, 1))
            .due(0, x -> x.way(19, 24, 1)).due(7, x -> x.way(19, 24, 2));
    }

    static void promise36MouthsAreAsTheyWere() {
        new Scene().does(x -> x.mouth(5)).does(x -> x.mouth(6)).does(x -> x.gate(1, true)).does(x -> x.image())
            .does(x -> x.gate(0, true)).does(x -> x.gate(1, false)).does(x -> x.mouth(7)).does(x -> x.restore())
            .due(2, x -> x.status(0)).due(1, x -> x.status(1)).due(NONE, x -> x.cell(7, 4))
            .due(0, x -> x.gate(0, false))
            .due(0, x -> x.gate(1, true)).refused(-1, x -> x.gate(2, true)).due(2, x -> x.mouth(8));
    }

    static void promise36LawsAreAsTheyWere() {
        new Scene().law("g0:d=0").law("g0:d=0").does(x -> x.force(1, false)).does(x -> x.image())
            .does(x -> x.force(0, false)).does(x -> x.force(1, true)).law("g0:d=0").does(x -> x.restore())
            .due(2, x -> x.status(2)).due(1, x -> x.status(3)).due(0, x -> x.force(0, true))
            .due(0, x -> x.force(1, false))
            .due(NONE, x -> x.says(2)).law("g0:d=1").due(0, x -> x.says(2)).due(1, x -> x.says(1));
    }

    static void promise36LawsReadOverThoseThatWereTakenBack() {
        new Scene().does(x -> x.image()).law("g0:d=0&h=0").does(x -> x.restore()).due(NONE, x -> x.says(0))
            .law("g0:d=1").due(0, x -> x.says(0)).does(x -> x.image()).does(x -> x.restore()).due(0, x -> x.says(0));
    }

    static void promise36HousesAreAsTheyWere() {
        Scene s = new Scene().island(0).does(x -> x.level(0, 9)).does(x -> x.house(1, 0, 1, 1, 7))
            .does(x -> x.house(2, 0, 2, 0, 0)).live(96).does(x -> x.image()).does(x -> x.raise(0, 50))
            .does(x -> x.house(0, 0, 0, 0, 0)).does(x -> x.level(0, 0)).live(97).does(x -> x.restore());
        int[] shop = {1, 0, 1, 1, 96, 96 * 7, 0, 1};
        int[] well = {2, 0, 2, 0, 96, 0, 192, 1};
        for (int w = 0; w < 8; w++) {
            int what = w;
            s.due(shop[w], x -> x.about(0, what)).due(well[w], x -> x.about(1, what));
        }
        s.due(NONE, x -> x.about(2, 0)).due(2, x -> x.status(4)).live(1).due(97 * 7, x -> x.about(0, 5))
            .due(2, x -> x.house(0, 0, 0, 0, 0));
    }

    static void promise36BoatsAreAsTheyWere() {
        Scene s = new Scene().does(x -> x.boat(0, 20, 20, 9, 3)).does(x -> x.goal(0, 1)).live(1).does(x -> x.goal(0, 3))
            .does(x -> x.close(1, 2, true)).does(x -> x.depth(6, 0)).does(x -> x.depth(0, 0)).live(1)
            .does(x -> x.image())
            .does(x -> x.close(1, 2, false)).live(2).does(x -> x.goal(0, 24)).does(x -> x.boat(3, 1, 1, 1, 1)).live(2)
            .does(x -> x.restore());
        int[] due = {1, 3, 1, 1, 20, 1};
        for (int w = 0; w < 6; w++) {
            int what = w;
            s.due(due[w], x -> x.sails(0, what));
        }
        s.due(NONE, x -> x.sails(1, 0)).due(1, x -> x.status(5)).does(x -> x.close(1, 2, false)).live(1)
            .due(40, x -> x.sails(0, 4)).does(x -> x.bridge(2, 3, 19)).due(7, x -> x.stepOf(0))
            .does(x -> x.bridge(2, 3, 20)).due(3, x -> x.stepOf(0)).does(x -> x.depth(2, 19))
            .due(NONE, x -> x.stepOf(0))
            .due(1, x -> x.boat(0, 1, 1, 1, 1));
    }

    static void promise36TheSeaAndTheForecastAreAsTheyWere() {
        new Scene().sea(5, 6).forecast(7, 8, 9).does(x -> x.image()).sea(1).forecast().does(x -> x.restore())
            .due(6, x -> x.seaAt(1, false)).due(5, x -> x.seaAt(2, false)).due(9, x -> x.seaAt(2, true))
            .due(7, x -> x.seaAt(3, true));
    }

    static void promise36NoSeaIsAsItWas() {
        new Scene().does(x -> x.image()).both(5).does(x -> x.restore()).due(0, x -> x.seaAt(0, false))
            .due(0, x -> x.seaAt(0, true));
    }

    static void promise36RulesAreAsTheyWere() {
        new Scene().does(x -> x.rule(0, 3)).does(x -> x.rule(1, 4)).does(x -> x.rule(2, 5)).does(x -> x.image())
            .does(x -> x.rule(0, 6)).does(x -> x.rule(1, 7)).does(x -> x.rule(2, 8)).does(x -> x.restore())
            .due(3, x -> x.rule(0, 0)).due(4, x -> x.rule(1, 1)).due(5, x -> x.rule(2, 0));
    }

    static void promise36WhatWasCountedIsAsItWas() {
        new Scene().island(7).does(x -> x.mouth(0)).does(x -> x.house(0, 7, 0, 0, 0)).does(x -> x.level(7, 1)).live(2)
            .does(x -> x.gate(0, true)).live(3).does(x -> x.image()).live(4).does(x -> x.gate(0, false)).live(5)
            .does(x -> x.level(7, 300)).does(x -> x.restore()).due(2, x -> x.status(8)).due(3, x -> x.status(9))
            .due(1, x -> x.status(10)).due(1, x -> x.status(18)).due(5, x -> x.status(7));
    }

    static void promise36AShelfWithAHouseThatThereIsNotHoldsNothing() {
        Scene s = new Scene().does(x -> x.house(0, 0, 0, 0, 0)).does(x -> x.image()).does(x -> x.house(1, 1, 0, 0, 0));
        for (int n = 0; n < 8; n++) {
            int shelf = n;
            s.does(x -> x.show(shelf, 1));
        }
        s.does(x -> x.restore()).dueEach(NONE, WaterCity::holds, 0, 1, 2, 3, 4, 5, 6, 7).refused(-3, x -> x.harm(0, 0));
    }

    static void promise36AShelfWithAHouseThatThereIsHoldsIt() {
        Scene s = new Scene().does(x -> x.house(0, 0, 0, 0, 0)).does(x -> x.house(1, 1, 0, 0, 0)).does(x -> x.image());
        for (int n = 0; n < 8; n++) {
            int shelf = n;
            s.does(x -> x.show(shelf, shelf % 2));
        }
        s.does(x -> x.restore()).dueEach(0, WaterCity::holds, 0, 2, 4, 6).dueEach(1, WaterCity::holds, 1, 3, 5, 7);
    }

    static void promise36AShelfThatLostItsHouseDoesNotHoldANewOne() {
        new Scene().does(x -> x.image()).does(x -> x.house(0, 0, 0, 0, 0)).does(x -> x.show(3, 0))
            .does(x -> x.restore())
            .due(NONE, x -> x.holds(3)).due(0, x -> x.house(2, 4, 0, 0, 0)).due(NONE, x -> x.holds(3));
    }

    static void promise36AShelfWithARowKeepsIt() {
        new Scene().does(x -> x.image()).does(x -> x.house(0, 0, 0, 0, 0)).does(x -> x.show(3, 0)).row(3, 2, 8)
            .does(x -> x.restore()).due(102, x -> x.holds(3)).due(8, x -> x.element(3, 0));
    }

    static void promise36AFullCityIsAsItWas() {
        Scene.full().does(x -> x.image()).does(x -> x.restore()).due(3, x -> x.status(0)).due(5, x -> x.status(2))
            .due(12, x -> x.status(4)).due(6, x -> x.status(5)).due(22, x -> x.about(11, 1)).due(5, x -> x.sails(5, 0))
            .refused(-7, x -> x.mouth(1)).refused(-7, x -> x.house(0, 0, 0, 0, 0))
            .refused(-7, x -> x.boat(0, 1, 1, 1, 0));
    }

    static void promise36AFullCityCanBeTakenBackToAnEmptyOne() {
        Scene s = new Scene().does(x -> x.image());
        for (int n = 0; n < 12; n++) {
            int number = n;
            s.does(x -> x.house(0, number, 0, 0, 0));
            if (n < 3) {
                s.does(x -> x.mouth(number));
            }
            if (n < 6) {
                s.does(x -> x.boat(number, 1, 1, 1, 0));
            }
        }
        s.does(x -> x.restore()).dueEach(0, WaterCity::status, 0, 1, 2, 3, 4, 5, 6, 7)
            .due(0, x -> x.mouth(0)).due(0, x -> x.house(0, 0, 0, 0, 0)).due(0, x -> x.boat(0, 1, 1, 1, 0));
    }
}
