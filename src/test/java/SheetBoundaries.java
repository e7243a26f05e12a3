import java.util.Arrays;

/** Promises 30 to 34: sheets. */
final class SheetBoundaries extends Boundaries {
    private static final Scene SOME = Scene.SOME;

    // ---- sheet, lose

    @Says(promise = 30, words = {"==== 4 SHEETS 0 .. 3 have nothing (at first), or a row of 0 .. 60 numbers (0 at first)", "OUTSIDE: lane, n above 60"})
    void aRowOfNoneToSixty() {
        for (int lane = 0; lane < 3; lane++) {
            x = new PicturePapers();
            due(1, "sheet(0|3, " + lane + ", 0)");
            due(INDEX, "put(0|3, 0, 1)");
            due(1, "sheet(1|2, " + lane + ", 60)");
            due(1, "put(1|2, 0|59, 1)");
            due(INDEX, "put(1|2, 60, 1)");
            due(1, "sheet(0, " + lane + ", 1)");
            due(1, "put(0, 0, 1)");
            due(INDEX, "put(0, 1, 1)");
        }
        refused(SOME, OUTSIDE, "sheet(0|3, 0|1|2, 61|62|MAX)");
    }

    @Says(promise = 30, words = "or a row of 0 .. 60 numbers (0 at first) of a LANE: 0 bytes, 1 shorts, 2 ints")
    void aNewRowIsAllZero() {
        for (int lane = 0; lane < 3; lane++) {
            x = new PicturePapers();
            int[] ones = new int[60];
            Arrays.fill(ones, 1);
            row(2, (lane + 1) % 3, ones);
            given("sheet(2, " + lane + ", 60)");
            cells(2, lane, new long[60]);
            row(2, lane, ones);
            given("sheet(2, " + lane + ", 1)", "sheet(2, " + lane + ", 60)");
            cells(2, lane, new long[60]);
        }
    }

    @Says(promise = 30, words = "A SHEET gets a new row: 1.")
    void eachSheetHasItsOwnRow() {
        for (int k = 0; k < 4; k++) {
            row(k, 2, 10 + k, 20 + k);
        }
        for (int k = 0; k < 4; k++) {
            cells(k, 2, 10 + k, 20 + k);
        }
        given("sheet(1, 0, 1)");
        cells(0, 2, 10, 20);
        cells(1, 0, 0);
        cells(2, 2, 12, 22);
    }

    @Says(promise = 30, words = "UNKNOWN")
    void noSuchSheetGetsARow() {
        refused(SOME, UNKNOWN, "sheet(-1|4|MIN|MAX, 0, 1)");
        due(1, "sheet(0|3, 0, 1)");
    }

    @Says(promise = 30, words = "of a LANE: 0 bytes, 1 shorts, 2 ints")
    void noSuchLane() {
        refused(SOME, OUTSIDE, "sheet(0|3, -1|3|MIN|MAX, 1)");
        due(1, "sheet(0, 0|1|2, 1)");
    }

    @Says(promise = 30, words = "SIZE.")
    void aRowOfFewerThanNone() {
        refused(SOME, SIZE, "sheet(0|3, 0|1|2, -1|-2|MIN)");
        due(SIZE, "sheet(0, 0, -1)");
        due(0, "lose(0)");
    }

    @Says(promise = 30, words = "UNKNOWN; OUTSIDE: lane, n above 60; SIZE.")
    void theOrderOfSheet() {
        inOrder(SOME, "sheet(0, 0, 1)", because(UNKNOWN, "0:4", "0:-1"), because(OUTSIDE, "1:3", "1:-1", "2:61"),
                because(SIZE, "2:-1"));
    }

    @Says(promise = 31, words = "A SHEET has nothing: 1; 0: it had nothing.")
    void aRowIsLostOnce() {
        due(0, "lose(0|1|2|3)");
        given("sheet(0|3, 0, 0)", "sheet(1, 2, 60)");
        due(1, "lose(0|1|3)");
        due(0, "lose(0|1|2|3)");
        due(NULL, "put(0|1|3, 0, 0)");
        refused(SOME, 0, "lose(3)");
    }

    @Says(promise = 31, words = "A SHEET has nothing: 1; 0: it had nothing.")
    void whatIsLostDoesNotComeBack() {
        row(0, 0, 7, 8);
        given("lose(0)", "sheet(0, 0, 2)");
        cells(0, 0, 0, 0);
    }

    @Says(promise = 31, words = "UNKNOWN.")
    void noSuchSheetIsLost() {
        refused(SOME, UNKNOWN, "lose(-1|4|MIN|MAX)");
    }

    // ---- put, cell

    @Says(promise = 32, words = "Cell i of a SHEET becomes v: 1.")
    void theFirstAndTheLastCell() {
        given("sheet(0, 2, 60)");
        due(1, "put(0, 0, -1)");
        due(1, "put(0, 59, MIN)");
        long[] want = new long[60];
        want[0] = -1;
        want[59] = Integer.MIN_VALUE;
        cells(0, 2, want);
    }

    @Says(promise = 32, words = "what comes to a cell of it is cut to its LANE.")
    void aByteWraps() {
        int[] values = {127, 128, 255, 256, -128, -129, -256, 65536, Integer.MAX_VALUE, Integer.MIN_VALUE};
        row(0, 0, values);
        cells(0, 0, 127, -128, -1, 0, -128, 127, 0, 0, -1, 0);
    }

    @Says(promise = 32, words = "what comes to a cell of it is cut to its LANE.")
    void aShortWraps() {
        int[] values = {32767, 32768, 65535, 65536, -32768, -32769, 128, -129, Integer.MAX_VALUE, Integer.MIN_VALUE};
        row(0, 1, values);
        cells(0, 1, 32767, -32768, -1, 0, -32768, 32767, 128, -129, -1, 0);
    }

    @Says(promise = 32, words = "what comes to a cell of it is cut to its LANE.")
    void anIntIsNotCut() {
        int[] values = {32768, -32769, 65536, Integer.MAX_VALUE, Integer.MIN_VALUE};
        row(0, 2, values);
        cells(0, 2, 32768, -32769, 65536, Integer.MAX_VALUE, Integer.MIN_VALUE);
    }

    @Says(promise = 32, words = "UNKNOWN")
    void noSuchSheetIsPut() {
        refused(SOME, UNKNOWN, "put(-1|4|MIN|MAX, 0, 1)");
    }

    @Says(promise = 32, words = "NULL")
    void nothingIsPut() {
        refused(SOME, NULL, "put(3, -1|0|60|MIN|MAX, 1)");
        refused(SOME.then("lose(0)"), NULL, "put(0, 0, 1)");
    }

    @Says(promise = 32, words = "INDEX.")
    void aCellThatIsNotThereIsPut() {
        refused(SOME, INDEX, "put(0, -1|10|59|60|MIN|MAX, 1)");
        refused(SOME, INDEX, "put(1, -1|7, 1)");
        refused(SOME, INDEX, "put(2, -1|6, 1)");
        refused(SOME.then("sheet(3, 2, 0)"), INDEX, "put(3, -1|0|1, 1)");
    }

    @Says(promise = 32, words = "UNKNOWN; NULL; INDEX.")
    void theOrderOfPut() {
        inOrder(SOME, "put(0, 0, 1)", because(UNKNOWN, "0:4", "0:-1"), because(NULL, "0:3"), because(INDEX, "1:-1", "1:10"));
    }

    @Says(promise = 33, words = "LOST: UNKNOWN, OUTSIDE: lane")
    void aCellOfNoSheetOrLane() {
        lost(SOME, 0, "cell(-1|4|MIN|MAX, 0, 0)");
        lost(SOME, 0, "cell(0|3, 0, -1|3|MIN|MAX)");
    }

    @Says(promise = 33, words = "FAULTS CAST (nothing is no CAST), NULL, INDEX.")
    void aCellThatIsNotThere() {
        lost(SOME, 2, "cell(0, 0|-1|10, 1|2)");
        lost(SOME, 2, "cell(1, 0, 0|2)");
        lost(SOME, 2, "cell(2, 0, 0|1)");
        lost(SOME, 1, "cell(3, -1|0|60, 0|1|2)");
        lost(SOME, 3, "cell(0, -1|10|59|60|MIN|MAX, 0)");
        lost(SOME, 3, "cell(1, -1|7, 1)");
        lost(SOME.then("sheet(3, 1, 0)"), 3, "cell(3, -1|0|1, 1)");
    }

    @Says(promise = 33, words = "Cell i of what a SHEET has, taken as a row of a LANE.")
    void theFirstAndTheLastCellAreRead() {
        begin(SOME.then("put(0, 10, 0)"));
        due(3, "fault()");
        due(1, "cell(0, 0, 0)");
        due(0, "fault()");
        due(7, "cell(0, 9, 0)");
        due(116, "cell(1, 0, 1)");
        due(48, "cell(1, 6, 1)");
        due(70000, "cell(2, 5, 2)");
    }

    @Says(promise = 33, words = "LOST: UNKNOWN, OUTSIDE: lane; FAULTS CAST (nothing is no CAST), NULL, INDEX.")
    void theOrderOfCell() {
        inOrder(SOME, "cell(0, 0, 0)", becauseLost(0, "0:4", "0:-1", "2:3", "2:-1"), becauseLost(1, "0:3"),
                becauseLost(2, "2:1", "2:2"), becauseLost(3, "1:-1", "1:10"));
    }

    @Says(promise = 33, words = "it answers -10 less it (LOST, where a long is answered, as for refusals) and changes nothing; fault() tells it.")
    void lostIsTheLeastLong() {
        begin(SOME);
        due(Long.MIN_VALUE, "cell(4|3|0, 10, 0)");
        due(Long.MIN_VALUE, "falsely(9, 0, 0)");
        check.due(PicturePapers.LOST, Long.MIN_VALUE, "LOST");
    }

    // ---- copy

    @Says(promise = 34, words = "n cells of a SHEET from i on go to another one (perhaps the same) from j on, as they were: n.")
    void noneToAllCellsAreCopied() {
        int[] numbers = new int[60];
        long[] want = new long[60];
        for (int i = 0; i < 60; i++) {
            numbers[i] = 1000 + i;
            want[i] = 1000 + i;
        }
        row(0, 2, numbers);
        given("sheet(1, 2, 60)");
        due(0, "copy(0, 0|60, 1, 0|60, 0)");
        due(1, "copy(0, 59, 1, 0, 1)");
        due(1059, "cell(1, 0, 2)");
        due(1, "copy(0, 0, 1, 59, 1)");
        due(1000, "cell(1, 59, 2)");
        due(60, "copy(0, 0, 1, 0, 60)");
        cells(1, 2, want);
    }

    @Says(promise = 34, words = "(perhaps the same) from j on, as they were: n.")
    void aRowIsCopiedOverItself() {
        row(0, 1, 1, 2, 3, 4, 5, 6);
        due(5, "copy(0, 0, 0, 1, 5)");
        cells(0, 1, 1, 1, 2, 3, 4, 5);
        row(0, 1, 1, 2, 3, 4, 5, 6);
        due(5, "copy(0, 1, 0, 0, 5)");
        cells(0, 1, 2, 3, 4, 5, 6, 6);
        due(6, "copy(0, 0, 0, 0, 6)");
        cells(0, 1, 2, 3, 4, 5, 6, 6);
    }

    @Says(promise = 34, words = "UNKNOWN")
    void noSuchSheetIsCopied() {
        refused(SOME, UNKNOWN, "copy(-1|4|MIN|MAX, 0, 0, 0, 0)");
        refused(SOME, UNKNOWN, "copy(0, 0, -1|4|MIN|MAX, 0, 0)");
    }

    @Says(promise = 34, words = "FAULTS NULL (the first, the other)")
    void nothingIsCopied() {
        refused(SOME, NULL, "copy(3, 0, 0|1|2, 0, 0|1)");
        refused(SOME, NULL, "copy(0|1|2, 0, 3, 0, 0|1)");
        refused(SOME, NULL, "copy(3, 0, 3, 0, 0)");
    }

    @Says(promise = 34, words = "CAST (unlike LANES)")
    void unlikeLanesAreCopied() {
        refused(SOME, CAST, "copy(0, 0, 1|2, 0, 0|1)");
        refused(SOME, CAST, "copy(1, 0, 0|2, 0, 0|1)");
        refused(SOME, CAST, "copy(2, 0, 0|1, 0, 0|1)");
    }

    @Says(promise = 34, words = "INDEX: i, j, n below 0 or beyond.")
    void cellsBelowOrBeyondAreCopied() {
        Scene scene = SOME.row(3, 0, 1, 2, 3);
        refused(scene, INDEX, "copy(0, -1|10|11|MIN|MAX, 3, 0, 1)");
        refused(scene, INDEX, "copy(0, 0, 3, -1|3|4|MIN|MAX, 1)");
        refused(scene, INDEX, "copy(0, 0, 3, 0, -1|4|10|11|MIN|MAX)");
        refused(scene, INDEX, "copy(3, 0, 0, 0, 4|10)");
        refused(scene, INDEX, "copy(0, 8, 3, 0, 3)");
        refused(scene, INDEX, "copy(0, 0, 3, 1, 3)");
        refused(scene, INDEX, "copy(0, MAX, 3, MAX, MAX)");
        refused(scene, INDEX, "copy(0, 5, 0, 6, 5)");
    }

    @Says(promise = 34, words = "INDEX: i, j, n below 0 or beyond.")
    void noCellsBelowOrBeyondAreCopied() {
        Scene scene = SOME.row(3, 0, 1, 2, 3);
        refused(scene, INDEX, "copy(0, -1|11|MIN|MAX, 3, 0, 0)");
        refused(scene, INDEX, "copy(0, 0, 3, -1|4|MIN|MAX, 0)");
        refused(scene, 0, "copy(0, 0|10, 3, 0|3, 0)");
        refused(scene.then("sheet(3, 0, 0)"), 0, "copy(3, 0, 0, 0, 0)");
        refused(scene.then("sheet(3, 0, 0)"), INDEX, "copy(3, 0, 0, 0, 1)");
    }

    @Says(promise = 34, words = "UNKNOWN; FAULTS NULL (the first, the other), CAST (unlike LANES), INDEX: i, j, n below 0 or beyond.")
    void theOrderOfCopy() {
        inOrder(SOME, "copy(0, 0, 0, 0, 1)", because(UNKNOWN, "0:4", "0:-1", "2:4", "2:-1"),
                because(NULL, "0:3", "2:3"), because(CAST, "0:1", "2:1", "2:2"),
                because(INDEX, "1:-1", "1:10", "3:-1", "3:10", "4:-1", "4:11"));
    }
}
