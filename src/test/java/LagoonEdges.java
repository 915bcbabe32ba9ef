/** What the document says of cells, ways, mouths and gates at their edges: promises 2 to 8, 34, 37 and 38. */
final class LagoonEdges {
    private static final int NONE = Scene.NONE;
    private static final int MIN = Scene.MIN;
    private static final int MAX = Scene.MAX;
    private static final int NO_CELL = 1_000_000;

    private LagoonEdges() {
    }

    private static boolean areBeside(int a, int b) {
        return Math.abs(a / 5 - b / 5) + Math.abs(a % 5 - b % 5) == 1;
    }

    // ---- Promise 2: depth

    static void promise2DepthAnswersWhatItWas() {
        new Scene().due(20, x -> x.depth(7, 31)).due(31, x -> x.depth(7, 31)).due(31, x -> x.depth(7, 5))
            .due(5, x -> x.cell(7, 0));
    }

    static void promise2Depth0IsTheLeast() {
        new Scene().due(20, x -> x.depth(7, 0)).due(0, x -> x.cell(7, 0)).due(0, x -> x.depth(7, 1));
    }

    static void promise2DepthBelow0IsWrong() {
        Scene.busy().refusedEach(-6, (x, n) -> x.depth(7, n), -1, -2, MIN);
    }

    static void promise2Depth60IsTheGreatest() {
        new Scene().due(20, x -> x.depth(7, 60)).due(60, x -> x.cell(7, 0)).due(60, x -> x.depth(7, 59));
    }

    static void promise2DepthAbove60IsWrong() {
        Scene.busy().refusedEach(-6, (x, n) -> x.depth(7, n), 61, 62, MAX);
    }

    static void promise2TheFirstCellIs0() {
        new Scene().due(20, x -> x.depth(0, 9)).due(9, x -> x.cell(0, 0)).due(20, x -> x.cell(1, 0));
    }

    static void promise2TheLastCellIs24() {
        new Scene().due(20, x -> x.depth(24, 9)).due(9, x -> x.cell(24, 0)).due(20, x -> x.cell(23, 0));
    }

    static void promise2NoCellBelow0() {
        Scene.busy().refusedEach(-1, (x, n) -> x.depth(n, 9), -1, MIN);
    }

    static void promise2NoCellBeyond24() {
        Scene.busy().refusedEach(-1, (x, n) -> x.depth(n, 9), 25, MAX);
    }

    static void promise2NobodyComesAheadOfWrong() {
        Scene.busy().refused(-1, x -> x.depth(25, 61)).refused(-1, x -> x.depth(-1, -1));
    }

    static void promise2OnlyThatCellsDepthChanges() {
        Scene s = new Scene().due(20, x -> x.depth(12, 3));
        for (int c = 0; c < 25; c++) {
            int cell = c;
            s.due(c == 12 ? 3 : 20, x -> x.cell(cell, 0)).due(0, x -> x.cell(cell, 1));
        }
    }

    // ---- Promise 3: level

    static void promise3LevelAnswersWhatItWas() {
        new Scene().due(0, x -> x.level(7, 31)).due(31, x -> x.level(7, 31)).due(31, x -> x.level(7, -5))
            .due(-5, x -> x.cell(7, 1));
    }

    static void promise3LevelMinus300IsTheLeast() {
        new Scene().due(0, x -> x.level(7, -300)).due(-300, x -> x.cell(7, 1)).due(-300, x -> x.level(7, -299));
    }

    static void promise3LevelBelowMinus300IsWrong() {
        Scene.busy().refusedEach(-6, (x, n) -> x.level(7, n), -301, MIN);
    }

    static void promise3Level300IsTheGreatest() {
        new Scene().due(0, x -> x.level(7, 300)).due(300, x -> x.cell(7, 1)).due(300, x -> x.level(7, 299));
    }

    static void promise3LevelAbove300IsWrong() {
        Scene.busy().refusedEach(-6, (x, n) -> x.level(7, n), 301, MAX);
    }

    static void promise3TheFirstCellIs0() {
        new Scene().due(0, x -> x.level(0, 9)).due(9, x -> x.cell(0, 1)).due(0, x -> x.cell(1, 1));
    }

    static void promise3TheLastCellIs24() {
        new Scene().due(0, x -> x.level(24, 9)).due(9, x -> x.cell(24, 1)).due(0, x -> x.cell(23, 1));
    }

    static void promise3NoCellBelow0() {
        Scene.busy().refusedEach(-1, (x, n) -> x.level(n, 9), -1, MIN);
    }

    static void promise3NoCellBeyond24() {
        Scene.busy().refusedEach(-1, (x, n) -> x.level(n, 9), 25, MAX);
    }

    static void promise3NobodyComesAheadOfWrong() {
        Scene.busy().refused(-1, x -> x.level(25, 301)).refused(-1, x -> x.level(-1, -301));
    }

    static void promise3WhatIsMoreCame() {
        new Scene().due(0, x -> x.level(7, 300)).due(300, x -> x.status(18)).due(0, x -> x.level(8, 1))
            .due(301, x -> x.status(18));
    }

    static void promise3WhatIsLessCameToo() {
        new Scene().due(0, x -> x.level(7, 300)).due(300, x -> x.level(7, -300)).due(-300, x -> x.status(18));
    }

    static void promise3TheSameLevelBringsNothing() {
        new Scene().due(0, x -> x.level(7, 12)).due(12, x -> x.level(7, 12)).due(12, x -> x.status(18));
    }

    static void promise3WhatCameByHandDidNotRun() {
        new Scene().due(0, x -> x.level(7, 300)).due(0, x -> x.cell(7, 3));
    }

    // ---- Promise 4: close

    static void promise4EveryWayOpenAtFirstIsOneThatCanBeClosed() {
        for (int a = 0; a < 25; a++) {
            for (int b = 0; b < 25; b++) {
                int p = a;
                int q = b;
                if (areBeside(a, b)) {
                    new Scene().due(0, x -> x.close(p, q, false)).due(1, x -> x.close(p, q, true))
                        .due(1, x -> x.way(q, p, 0));
                }
            }
        }
    }

    static void promise4CellsThatAreNotBesideOneAnotherAreNobody() {
        for (int a = 0; a < 25; a++) {
            Scene s = new Scene();
            for (int b = 0; b < 25; b++) {
                int p = a;
                int q = b;
                if (!areBeside(a, b)) {
                    s.refusedHere(-1, x -> x.close(p, q, true));
                }
            }
        }
    }

    static void promise4TheEndOfARowIsNotBesideTheNextRow() {
        Scene s = Scene.busy();
        for (int end : new int[] {4, 9, 14, 19}) {
            s.refused(-1, x -> x.close(end, end + 1, true)).refused(-1, x -> x.close(end + 1, end, true));
        }
    }

    static void promise4ACellIsNotBesideItself() {
        Scene.busy().refusedEach(-1, (x, n) -> x.close(n, n, true), 0, 12, 24);
    }

    static void promise4CellsAtACornerAreNotBesideOneAnother() {
        Scene.busy().refusedEach(-1, (x, n) -> x.close(12, n, true), 6, 8, 16, 18);
    }

    static void promise4NoCellBelow0() {
        Scene.busy().refused(-1, x -> x.close(-1, 0, true)).refused(-1, x -> x.close(0, -1, true))
            .refused(-1, x -> x.close(0, -5, true)).refused(-1, x -> x.close(-5, 0, true))
            .refused(-1, x -> x.close(MIN, MIN + 1, true));
    }

    static void promise4NoCellBeyond24() {
        Scene.busy().refused(-1, x -> x.close(24, 25, true)).refused(-1, x -> x.close(25, 24, true))
            .refused(-1, x -> x.close(20, 25, true)).refused(-1, x -> x.close(29, 24, true))
            .refused(-1, x -> x.close(MAX, MAX - 1, true)).refused(-1, x -> x.close(MAX, MIN, true));
    }

    static void promise4ClosingWhatIsClosedAnswers0() {
        new Scene().due(1, x -> x.close(3, 8, true)).due(0, x -> x.close(3, 8, true)).due(1, x -> x.way(3, 8, 0));
    }

    static void promise4OpeningWhatIsOpenAnswers0() {
        new Scene().due(1, x -> x.close(3, 8, true)).due(1, x -> x.close(3, 8, false))
            .due(0, x -> x.close(3, 8, false)).due(0, x -> x.way(3, 8, 0));
    }

    static void promise4AWayIsOneFromBothItsEnds() {
        new Scene().due(1, x -> x.close(8, 3, true)).due(0, x -> x.close(3, 8, true)).due(1, x -> x.close(3, 8, false))
            .due(0, x -> x.way(8, 3, 0));
    }

    static void promise4OnlyThatWayIsClosed() {
        Scene s = new Scene().due(1, x -> x.close(12, 13, true));
        for (int a = 0; a < 25; a++) {
            for (int b = a + 1; b < 25; b++) {
                int p = a;
                int q = b;
                if (areBeside(a, b)) {
                    s.due(a == 12 && b == 13 ? 1 : 0, x -> x.way(p, q, 0)).due(0, x -> x.way(p, q, 1));
                }
            }
        }
    }

    // ---- Promise 5: narrow

    static void promise5EveryWayCanBeNarrow() {
        for (int a = 0; a < 25; a++) {
            for (int b = 0; b < 25; b++) {
                int p = a;
                int q = b;
                if (areBeside(a, b)) {
                    new Scene().due(0, x -> x.narrow(p, q, false)).due(1, x -> x.narrow(p, q, true))
                        .due(1, x -> x.way(q, p, 1));
                }
            }
        }
    }

    static void promise5CellsThatAreNotBesideOneAnotherAreNobody() {
        for (int a = 0; a < 25; a++) {
            Scene s = new Scene();
            for (int b = 0; b < 25; b++) {
                int p = a;
                int q = b;
                if (!areBeside(a, b)) {
                    s.refusedHere(-1, x -> x.narrow(p, q, true));
                }
            }
        }
    }

    static void promise5TheEndOfARowIsNotBesideTheNextRow() {
        Scene s = Scene.busy();
        for (int end : new int[] {4, 9, 14, 19}) {
            s.refused(-1, x -> x.narrow(end, end + 1, true)).refused(-1, x -> x.narrow(end + 1, end, true));
        }
    }

    static void promise5ACellIsNotBesideItself() {
        Scene.busy().refusedEach(-1, (x, n) -> x.narrow(n, n, true), 0, 12, 24);
    }

    static void promise5NoCellBelow0() {
        Scene.busy().refused(-1, x -> x.narrow(-1, 0, true)).refused(-1, x -> x.narrow(0, -5, true))
            .refused(-1, x -> x.narrow(MIN, MIN, true));
    }

    static void promise5NoCellBeyond24() {
        Scene.busy().refused(-1, x -> x.narrow(24, 25, true)).refused(-1, x -> x.narrow(29, 24, true))
            .refused(-1, x -> x.narrow(MAX, MAX - 1, true));
    }

    static void promise5NarrowingWhatIsNarrowAnswers0() {
        new Scene().due(1, x -> x.narrow(3, 4, true)).due(0, x -> x.narrow(3, 4, true)).due(1, x -> x.way(3, 4, 1));
    }

    static void promise5WideningWhatIsWideAnswers0() {
        new Scene().due(1, x -> x.narrow(3, 4, true)).due(1, x -> x.narrow(4, 3, false))
            .due(0, x -> x.narrow(3, 4, false)).due(0, x -> x.way(3, 4, 1));
    }

    static void promise5ANarrowWayIsNotClosed() {
        new Scene().due(1, x -> x.narrow(3, 4, true)).due(0, x -> x.way(3, 4, 0)).due(NONE, x -> x.way(3, 4, 2));
    }

    // ---- Promise 6: bridge

    static void promise6BridgeAnswersWhatItWas() {
        new Scene().due(NONE, x -> x.bridge(5, 6, 40)).due(40, x -> x.bridge(6, 5, 41)).due(41, x -> x.way(5, 6, 2));
    }

    static void promise6Height0IsTheLeast() {
        new Scene().due(NONE, x -> x.bridge(5, 6, 0)).due(0, x -> x.way(5, 6, 2)).due(0, x -> x.bridge(5, 6, 1));
    }

    static void promise6Height99IsTheGreatest() {
        new Scene().due(NONE, x -> x.bridge(5, 6, 99)).due(99, x -> x.way(5, 6, 2)).due(99, x -> x.bridge(5, 6, 98));
    }

    static void promise6HeightNoneIsNoBridge() {
        new Scene().due(NONE, x -> x.bridge(5, 6, NONE)).due(NONE, x -> x.bridge(5, 6, 40))
            .due(40, x -> x.bridge(5, 6, NONE)).due(NONE, x -> x.way(5, 6, 2)).due(NONE, x -> x.bridge(5, 6, 1));
    }

    static void promise6HeightBelowNoneIsWrong() {
        Scene.busy().refusedEach(-6, (x, n) -> x.bridge(1, 2, n), -2, MIN);
    }

    static void promise6HeightAbove99IsWrong() {
        Scene.busy().refusedEach(-6, (x, n) -> x.bridge(1, 2, n), 100, MAX);
    }

    static void promise6CellsThatAreNotBesideOneAnotherAreNobody() {
        for (int a = 0; a < 25; a++) {
            Scene s = new Scene();
            for (int b = 0; b < 25; b++) {
                int p = a;
                int q = b;
                if (!areBeside(a, b)) {
                    s.refusedHere(-1, x -> x.bridge(p, q, 9));
                }
            }
        }
    }

    static void promise6TheEndOfARowIsNotBesideTheNextRow() {
        Scene s = Scene.busy();
        for (int end : new int[] {4, 9, 14, 19}) {
            s.refused(-1, x -> x.bridge(end, end + 1, 9));
        }
    }

    static void promise6NoSuchCell() {
        Scene.busy().refused(-1, x -> x.bridge(-1, 0, 9)).refused(-1, x -> x.bridge(24, 25, 9))
            .refused(-1, x -> x.bridge(20, 25, 9)).refused(-1, x -> x.bridge(MIN, MAX, 9));
    }

    static void promise6NobodyComesAheadOfWrong() {
        Scene.busy().refused(-1, x -> x.bridge(4, 5, 100)).refused(-1, x -> x.bridge(25, 24, -2));
    }

    static void promise6OnlyThatWayHasTheBridge() {
        Scene s = new Scene().due(NONE, x -> x.bridge(12, 17, 50));
        for (int a = 0; a < 25; a++) {
            for (int b = a + 1; b < 25; b++) {
                int p = a;
                int q = b;
                if (areBeside(a, b)) {
                    s.due(a == 12 && b == 17 ? 50 : NONE, x -> x.way(p, q, 2));
                }
            }
        }
    }

    // ---- Promise 7: mouth

    static void promise7MouthsHaveNumbersFrom0On() {
        new Scene().due(0, x -> x.mouth(24)).due(1, x -> x.mouth(0)).due(2, x -> x.mouth(12))
            .due(0, x -> x.cell(24, 4)).due(1, x -> x.cell(0, 4)).due(2, x -> x.cell(12, 4));
    }

    static void promise7ThreeMouthsAtMost() {
        Scene.full().refusedEach(-7, (x, n) -> x.mouth(n), 1, 23).due(3, x -> x.status(0));
    }

    static void promise7ACellThatHasOneIsWrong() {
        Scene.busy().refusedEach(-6, (x, n) -> x.mouth(n), 0, 24);
    }

    static void promise7WrongComesAheadOfRoom() {
        Scene.full().refusedEach(-6, (x, n) -> x.mouth(n), 0, 12, 24);
    }

    static void promise7NoCellBelow0() {
        Scene.busy().refusedEach(-1, (x, n) -> x.mouth(n), -1, MIN);
    }

    static void promise7NoCellBeyond24() {
        Scene.busy().refusedEach(-1, (x, n) -> x.mouth(n), 25, MAX);
    }

    static void promise7NobodyComesAheadOfRoom() {
        Scene.full().refusedEach(-1, (x, n) -> x.mouth(n), -1, 25);
    }

    static void promise7AGateIsOpenAtFirst() {
        new Scene().due(0, x -> x.mouth(3)).due(0, x -> x.status(1)).due(0, x -> x.gate(0, false));
    }

    static void promise7AGateIsOpenAtFirstWhereTheImageTookAShutOneBack() {
        new Scene().does(x -> x.image()).does(x -> x.mouth(3)).does(x -> x.gate(0, true)).does(x -> x.restore())
            .due(0, x -> x.mouth(3)).due(0, x -> x.status(1)).due(1, x -> x.gate(0, true));
    }

    static void promise7ACellHasNoMouthMoreThatTheImageTookBack() {
        new Scene().does(x -> x.image()).due(0, x -> x.mouth(3)).does(x -> x.restore())
            .due(NONE, x -> x.cell(3, 4)).due(0, x -> x.mouth(4)).due(1, x -> x.mouth(3));
    }

    // ---- Promise 8: gate

    static void promise8AGateThatIsOtherwiseAnswers1() {
        new Scene().does(x -> x.mouth(3)).due(1, x -> x.gate(0, true)).due(1, x -> x.status(1))
            .due(1, x -> x.gate(0, false)).due(0, x -> x.status(1));
    }

    static void promise8AGateThatIsSoAnswers0() {
        new Scene().does(x -> x.mouth(3)).due(0, x -> x.gate(0, false)).due(1, x -> x.gate(0, true))
            .due(0, x -> x.gate(0, true)).due(1, x -> x.status(1));
    }

    static void promise8TheLastMouthIs2() {
        Scene.full().due(1, x -> x.gate(2, true)).due(1, x -> x.status(1)).due(0, x -> x.gate(1, false))
            .due(0, x -> x.gate(0, false));
    }

    static void promise8NoMouthBelow0() {
        Scene.busy().refusedEach(-1, (x, n) -> x.gate(n, true), -1, MIN);
    }

    static void promise8NoMouthBeyondTheLast() {
        Scene.busy().refusedEach(-1, (x, n) -> x.gate(n, true), 2, 3, MAX);
    }

    static void promise8NoMouthBeyond2InAFullCity() {
        Scene.full().refusedEach(-1, (x, n) -> x.gate(n, false), 3, 4, MAX);
    }

    static void promise8NoMouthAtAll() {
        new Scene().refusedEach(-1, (x, n) -> x.gate(n, true), 0, -1, 1);
    }

    // ---- Promise 34: dredge

    static void promise34DredgeAnswersTheDepth() {
        new Scene().due(27, x -> x.dredge(7, 7)).due(27, x -> x.cell(7, 0)).due(20, x -> x.cell(8, 0));
    }

    static void promise34OneMoreIsTheLeast() {
        new Scene().due(21, x -> x.dredge(7, 1)).due(21, x -> x.cell(7, 0));
    }

    static void promise34NoneOrLessIsWrong() {
        Scene.busy().refusedEach(-6, (x, n) -> x.dredge(7, n), 0, -1, MIN);
    }

    static void promise34TwentyMoreIsTheMost() {
        new Scene().due(40, x -> x.dredge(7, 20)).due(40, x -> x.cell(7, 0));
    }

    static void promise34MoreThan20IsWrong() {
        Scene.busy().refusedEach(-6, (x, n) -> x.dredge(7, n), 21, MAX);
    }

    static void promise34DepthReaches60() {
        new Scene().does(x -> x.depth(7, 59)).due(60, x -> x.dredge(7, 1)).due(60, x -> x.cell(7, 0));
    }

    static void promise34DepthIs60AtMost() {
        new Scene().does(x -> x.depth(7, 59)).due(60, x -> x.dredge(7, 2)).due(60, x -> x.cell(7, 0))
            .due(60, x -> x.dredge(7, 20)).due(60, x -> x.cell(7, 0));
    }

    static void promise34Depth0CanBeDredged() {
        new Scene().does(x -> x.depth(7, 0)).due(20, x -> x.dredge(7, 20));
    }

    static void promise34TheFirstAndTheLastCell() {
        new Scene().due(21, x -> x.dredge(0, 1)).due(22, x -> x.dredge(24, 2)).due(21, x -> x.cell(0, 0))
            .due(22, x -> x.cell(24, 0));
    }

    static void promise34NoSuchCell() {
        Scene.busy().refusedEach(-1, (x, n) -> x.dredge(n, 1), -1, 25, MIN, MAX);
    }

    static void promise34NobodyComesAheadOfWrong() {
        Scene.busy().refused(-1, x -> x.dredge(25, 0)).refused(-1, x -> x.dredge(-1, 21));
    }

    // ---- Promise 37: cell

    static void promise37TheFirstAndTheLastCellCanBeAsked() {
        new Scene().does(x -> x.depth(0, 1)).does(x -> x.depth(24, 2)).due(1, x -> x.cell(0, 0))
            .due(2, x -> x.cell(24, 0));
    }

    static void promise37NoSuchCellIsAMillionAndNoRefusal() {
        Scene.busy().dueEach(NO_CELL, (x, n) -> x.cell(n, 0), -1, 25, MIN, MAX)
            .dueEach(NO_CELL, (x, n) -> x.cell(n, 4), -1, 25).due(NO_CELL, x -> x.cell(25, 5));
    }

    static void promise37AnotherWhatIsAMillionAndNoRefusal() {
        Scene.busy().dueEach(NO_CELL, (x, n) -> x.cell(0, n), -1, 5, 6, MIN, MAX);
    }

    static void promise37EachWhatTellsItsOwn() {
        // 1 of the 40 that came stays behind the flow of 4 times 5; the boat that comes to 8 wears 20 of its wall
        new Scene().does(x -> x.mouth(0)).does(x -> x.mouth(8)).does(x -> x.gate(0, true)).sea(43)
            .does(x -> x.depth(8, 33)).does(x -> x.boat(9, 1, 1, 9, 0)).does(x -> x.goal(0, 8)).live(1)
            .due(33, x -> x.cell(8, 0)).due(1, x -> x.cell(8, 1)).due(980, x -> x.cell(8, 2))
            .due(20, x -> x.cell(8, 3)).due(1, x -> x.cell(8, 4));
    }

    static void promise37ACellWithoutAMouthTellsNone() {
        Scene.full().due(NONE, x -> x.cell(1, 4)).due(NONE, x -> x.cell(23, 4)).due(2, x -> x.cell(24, 4));
    }

    static void promise37AskingChangesNothing() {
        Scene.busy().changesNothing(x -> x.cell(3, 2)).changesNothing(x -> x.cell(25, 2));
    }

    // ---- Promise 38: way

    static void promise38EachWhatTellsItsOwn() {
        new Scene().does(x -> x.close(11, 16, true)).does(x -> x.narrow(11, 12, true)).does(x -> x.bridge(11, 10, 44))
            .due(1, x -> x.way(11, 16, 0)).due(0, x -> x.way(11, 16, 1)).due(NONE, x -> x.way(11, 16, 2))
            .due(0, x -> x.way(12, 11, 0)).due(1, x -> x.way(12, 11, 1)).due(NONE, x -> x.way(12, 11, 2))
            .due(0, x -> x.way(10, 11, 0)).due(0, x -> x.way(10, 11, 1)).due(44, x -> x.way(10, 11, 2));
    }

    static void promise38NoWayBetweenCellsApartIsNoneAndNoRefusal() {
        Scene.busy().dueEach(NONE, (x, n) -> x.way(12, n, 0), 6, 8, 10, 12, 14, 16, 18, 22);
    }

    static void promise38TheEndOfARowHasNoWayToTheNextRow() {
        Scene.busy().dueEach(NONE, (x, n) -> x.way(n, n + 1, 0), 4, 9, 14, 19)
            .dueEach(NONE, (x, n) -> x.way(n + 1, n, 1), 4, 9, 14, 19);
    }

    static void promise38NoSuchCellIsNoneAndNoRefusal() {
        Scene.busy().dueEach(NONE, (x, n) -> x.way(n, n + 1, 0), -1, 24, MIN, MAX)
            .dueEach(NONE, (x, n) -> x.way(n, n + 5, 0), -5, 20, 24, MIN, MAX);
    }

    static void promise38AnotherWhatIsNoneAndNoRefusal() {
        Scene.busy().dueEach(NONE, (x, n) -> x.way(10, 11, n), -1, 3, MIN, MAX);
    }

    static void promise38AskingChangesNothing() {
        Scene.busy().changesNothing(x -> x.way(10, 11, 0)).changesNothing(x -> x.way(4, 5, 0));
    }
}
