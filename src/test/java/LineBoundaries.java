import java.util.Arrays;

/** Promises 5 to 9, 11 and 12: lenses and lines. */
final class LineBoundaries extends Boundaries {
    private static final Scene SOME = Scene.SOME, FULL_SCENE = Scene.FULL;

    // ---- lenses

    @Says(promise = 5, words = {"LENSES (keys), 6 ever, numbered as they come", "FULL."})
    void thereAreSixLensesEver() {
        for (int lens = 0; lens < 6; lens++) {
            due(lens, "lens(5)");
            due(lens + 1, "many(1)");
        }
        due(FULL, "lens(5)");
        refused(FULL_SCENE, FULL, "lens(1|5|9972)");
    }

    @Says(promise = 5, words = {"each with a KEY (1 .. 9972)", "OUTSIDE"})
    void aKeyIsOneTo9972() {
        due(0, "lens(1)");
        due(1, "lens(9972)");
        refused(SOME, OUTSIDE, "lens(0|9973|-1|MIN|MAX)");
        due(OUTSIDE, "lens(0|9973)");
        due(2, "lens(1)");
    }

    @Says(promise = 5, words = "OUTSIDE; FULL.")
    void theOrderOfLens() {
        inOrder(FULL_SCENE, "lens(5)", because(OUTSIDE, "0:0", "0:9973", "0:-1"), because(FULL, ""));
    }

    @Says(promise = 6, words = "A LENS is STOLEN from an HOUR on (1000: not): from when it was (1000: not).")
    void stolenFromTheFirstToTheLastHour() {
        given("lens(5)");
        due(1000, "steal(0, 1000)");
        due(1000, "steal(0, 0)");
        due(0, "steal(0, 999)");
        due(999, "steal(0, 1000)");
        due(1000, "steal(0, 1)");
        due(1, "steal(0, 1)");
    }

    @Says(promise = 6, words = "UNKNOWN")
    void noSuchLensIsStolen() {
        refused(SOME, UNKNOWN, "steal(-1|3|MIN|MAX, 0)");
        refused(FULL_SCENE, UNKNOWN, "steal(-1|6, 0)");
        due(UNKNOWN, "steal(0, 0)");
    }

    @Says(promise = 6, words = "OUTSIDE")
    void stolenFromNoHour() {
        refused(SOME, OUTSIDE, "steal(0|1, -1|1001|MIN|MAX)");
    }

    @Says(promise = 6, words = "UNKNOWN; OUTSIDE.")
    void theOrderOfSteal() {
        inOrder(SOME, "steal(0, 0)", because(UNKNOWN, "0:3", "0:-1"), because(OUTSIDE, "1:-1", "1:1001"));
    }

    // ---- the seal

    @Says(promise = 7, words = "A SEAL of a PICTURE by a LENS at an HOUR (0 .. 999): ROOT times KEY, and 13 times the HOUR, and its w times 5, and h, the rest by 9973.")
    void theSealOfTheLeastAndTheGreatest() {
        int[] squares = {3, 1, 4, 1, 5, 92, 65, 35, 89, 79, 32, 38, 46, 26, 43, 38};
        int[] keys = {1, 2, 9971, 9972};
        given("lens(1|2|9971|9972)");
        draw(1, 1, 0);
        draw(4, 4, squares);
        for (int lens = 0; lens < keys.length; lens++) {
            for (int hour : new int[] {0, 1, 998, 999}) {
                due(seal(root(1, 1, 0), keys[lens], hour, 1, 1), "take(0, " + lens + ", " + hour + ")");
                due(seal(root(4, 4, squares), keys[lens], hour, 4, 4), "take(1, " + lens + ", " + hour + ")");
                given("tear(0|1)");
            }
        }
    }

    @Says(promise = 7, words = "and its w times 5, and h, the rest by 9973.")
    void theSealKnowsTheSides() {
        given("lens(1)");
        draw(2, 1, 0, 0);
        draw(1, 2, 0, 0);
        due(93 + 10 + 1, "take(0, 0, 0)");
        due((root(1, 2, 0, 0) + 5 + 2) % PRIME, "take(1, 0, 0)");
    }

    // ---- take

    @Says(promise = 7, words = {"LINES: a PICTURE has one, or none (at first, torn off), of a kind: 0 TAKEN", "STATE: it has a LINE."})
    void aPictureHasOneLine() {
        refused(SOME, STATE, "take(0|1|3, 0, 0)");
        begin(SOME);
        due(3, "many(2)");
        given("take(2, 0, 999)");
        due(4, "many(2)");
        due(STATE, "take(2, 0, 999)");
        due(1, "tear(2)");
        due(3, "many(2)");
        given("take(2, 1, 0)");
        due(0, "line(2, 0|2)");
        due(1, "line(2, 1)");
    }

    @Says(promise = 7, words = "UNKNOWN: PICTURE, LENS")
    void noSuchPictureOrLensTakes() {
        refused(SOME, UNKNOWN, "take(-1|5|12|MIN|MAX, 0, 0)");
        refused(SOME, UNKNOWN, "take(2, -1|3|6|MIN|MAX, 0)");
    }

    @Says(promise = 7, words = "OUTSIDE: hour")
    void takenAtNoHour() {
        refused(SOME, OUTSIDE, "take(2, 0, -1|1000|MIN|MAX)");
        begin(SOME);
        given("take(2, 0, 999)", "take(4, 0, 0)");
    }

    @Says(promise = 7, words = "UNKNOWN: PICTURE, LENS; OUTSIDE: hour; STATE: it has a LINE.")
    void theOrderOfTake() {
        inOrder(SOME, "take(2, 0, 0)", because(UNKNOWN, "0:5", "0:-1", "1:3", "1:-1"),
                because(OUTSIDE, "2:-1", "2:1000"), because(STATE, "0:0", "0:1", "0:3"));
    }

    // ---- hush

    @Says(promise = 8, words = {
        "1 CHANGED, a TAKEN: from another PICTURE of a lesser number by ACTS; 2 SILENT, a CHANGED: from another one",
        "the other one's number is not less",
    })
    void hushedFromALesserNumber() {
        refused(SOME, STATE, "hush(2, 2|3|4, 0, 0)");
        refused(SOME, STATE, "hush(4, 4, 0, 0)");
        begin(SOME);
        given("hush(2, 1, 0, 0)", "hush(4, 0, 0, 0)");
        due(1, "line(2, 4)");
        due(0, "line(4, 4)");
        due(2, "line(2|4, 0)");
    }

    @Says(promise = 8, words = "the other one's number is not less")
    void theFirstPictureComesFromNone() {
        begin(SOME.then("tear(0)"));
        due(STATE, "hush(0, 0|1|4, 0, 0)");
        refused(SOME.then("tear(0)"), STATE, "hush(0, 0|1|4, 0, 0)");
    }

    @Says(promise = 8, words = "STATE: it has a LINE")
    void hushedWithALine() {
        refused(SOME, STATE, "hush(1, 0, 0, 0)");
        refused(SOME, STATE, "hush(3, 0|1|2, 0, 0)");
    }

    @Says(promise = 8, words = "UNKNOWN: PICTURES, LENS")
    void noSuchPicturesOrLensHush() {
        refused(SOME, UNKNOWN, "hush(-1|5|MIN|MAX, 0, 0, 0)");
        refused(SOME, UNKNOWN, "hush(2, -1|5|MIN|MAX, 0, 0)");
        refused(SOME, UNKNOWN, "hush(2, 0, -1|3|MIN|MAX, 0)");
    }

    @Says(promise = 8, words = "OUTSIDE: hour")
    void hushedAtNoHour() {
        refused(SOME, OUTSIDE, "hush(2, 0, 0, -1|1000|MIN|MAX)");
        begin(SOME);
        given("hush(2, 0, 0, 999)", "hush(4, 0, 0, 0)");
        due(999, "line(2, 2)");
        due(0, "line(4, 2)");
    }

    @Says(promise = 8, words = "UNKNOWN: PICTURES, LENS; OUTSIDE: hour; STATE: it has a LINE, the other one's number is not less.")
    void theOrderOfHush() {
        inOrder(SOME, "hush(2, 0, 0, 0)", because(UNKNOWN, "0:5", "0:-1", "1:5", "1:-1", "2:3", "2:-1"),
                because(OUTSIDE, "3:-1", "3:1000"), because(STATE, "0:1", "0:3", "1:2", "1:4", "0:0"));
    }

    // ---- change

    @Says(promise = 9, words = "A PICTURE gets a LINE, CHANGED, from another one by ACTS by a TEXT of n such cells: its SEAL; -100 less the FIRST FAULT.")
    void oneToFiveActsAreKept() {
        draw(1, 1, 50);
        draw(1, 1, 50);
        given("lens(7)");
        for (int acts = 1; acts <= 5; acts++) {
            String text = "t;t;t;t;t".substring(0, 2 * acts - 1);
            check.due(change(1, 0, 0, 3, text), seal(root(1, 1, 50), 7, 3, 1, 1), "change by " + text);
            due(acts, "line(1, 5)");
            given("tear(1)");
        }
        check.due(change(1, 0, 0, 3, ""), FIRST_FAULT, "change by no text");
        check.due(change(1, 0, 0, 3, "t;t;t;t;t;t"), FIRST_FAULT - 9, "change by six acts");
        due(STATE, "line(1, 5)");
    }

    @Says(promise = 9, words = "from another one by ACTS by a TEXT of n such cells: its SEAL")
    void actsThatCannotBeDoneAreToldToo() {
        begin(SOME);
        for (String text : new String[] {"c0000", "b9999", "c0011;c1111"}) {
            check.holds(change(2, 0, 0, 0, text) >= 0, "change by " + text);
            due(1, "tear(2)");
        }
    }

    @Says(promise = 9, words = "from another one by ACTS by a TEXT of n such cells: its SEAL")
    void actsStayAsTheirRowChanges() {
        draw(2, 1, 5, 6);
        draw(2, 1, 8, 9);
        given("lens(7)");
        check.holds(change(1, 0, 0, 0, "l3;t;t;t;t") >= 0, "change");
        text(1, 0, "m3;c0011;x");
        check.due(x.act(0, 1, 0, 0, 8), 2, "another text is read");
        due(5, "line(1, 5)");
        due(NONE, "play(1)");
        given("lose(1)");
        due(NONE, "play(1)");
    }

    @Says(promise = 9, words = "UNKNOWN: PICTURES, LENS, SHEET")
    void noSuchPicturesLensOrSheetChange() {
        refused(SOME, UNKNOWN, "change(-1|5|MIN|MAX, 0, 0, 0, 1, 1, 0, 1)");
        refused(SOME, UNKNOWN, "change(2, -1|5|MIN|MAX, 0, 0, 1, 1, 0, 1)");
        refused(SOME, UNKNOWN, "change(2, 0, -1|3|MIN|MAX, 0, 1, 1, 0, 1)");
        refused(SOME, UNKNOWN, "change(2, 0, 0, 0, -1|4|MIN|MAX, 1, 0, 1)");
    }

    @Says(promise = 9, words = "OUTSIDE: hour, lane")
    void changedAtNoHourByNoLane() {
        refused(SOME, OUTSIDE, "change(2, 0, 0, -1|1000|MIN|MAX, 1, 1, 0, 1)");
        refused(SOME, OUTSIDE, "change(2, 0, 0, 0, 1, -1|3|MIN|MAX, 0, 1)");
        begin(SOME);
        given("change(2, 0, 0, 999, 1, 1, 0, 1)", "change(4, 0, 0, 0, 1, 1, 0, 1)");
    }

    @Says(promise = 9, words = "CAST")
    void changedByAnotherLane() {
        refused(SOME, CAST, "change(2, 0, 0, 0, 0, 1|2, 0, 1)");
        refused(SOME, CAST, "change(2, 0, 0, 0, 1, 0|2, 0, 1)");
        refused(SOME, CAST, "change(2, 0, 0, 0, 2, 0|1, 0, 1)");
    }

    @Says(promise = 9, words = "NULL")
    void changedByNothing() {
        refused(SOME, NULL, "change(2, 0, 0, 0, 3, 0|1|2, 0, 0|1)");
    }

    @Says(promise = 9, words = "SIZE: n below 0")
    void changedByFewerThanNoCells() {
        refused(SOME, SIZE, "change(2, 0, 0, 0, 1, 1, 0, -1|MIN)");
        refused(SOME, FIRST_FAULT, "change(2, 0, 0, 0, 1, 1, 0, 0)");
    }

    @Says(promise = 9, words = "INDEX")
    void changedBeyondTheRow() {
        refused(SOME, INDEX, "change(2, 0, 0, 0, 1, 1, -1|7|8|MIN|MAX, 1)");
        refused(SOME, INDEX, "change(2, 0, 0, 0, 1, 1, 0, 8|61|MAX)");
        refused(SOME, INDEX, "change(2, 0, 0, 0, 1, 1, 1|MAX, 7|MAX)");
    }

    @Says(promise = 9, words = "INDEX")
    void changedByNoCells() {
        refused(SOME, INDEX, "change(2, 0, 0, 0, 1, 1, -1|8|MIN|MAX, 0)");
        refused(SOME, FIRST_FAULT, "change(2, 0, 0, 0, 1, 1, 0|6|7, 0)");
    }

    @Says(promise = 9, words = "-100 less it")
    void changedByAFaultyText() {
        refused(SOME, FIRST_FAULT - 6, "change(2, 0, 0, 0, 1, 1, 0, 7)");
        refused(SOME, FIRST_FAULT - 5, "change(2, 0, 0, 0, 1, 1, 0, 5)");
        refused(SOME, FIRST_FAULT, "change(2, 0, 0, 0, 1, 1, 1, 6)");
        refused(SOME, FIRST_FAULT, "change(2, 0, 0, 0, 2, 2, 0, 6)");
    }

    @Says(promise = 9, words = "STATE: as hush().")
    void changedWithALineOrFromALaterOne() {
        refused(SOME, STATE, "change(1, 0, 0, 0, 1, 1, 0, 1|4)");
        refused(SOME, STATE, "change(3, 0|1|2, 0, 0, 1, 1, 0, 1)");
        refused(SOME, STATE, "change(2, 2|3|4, 0, 0, 1, 1, 0, 1)");
        begin(SOME);
        given("change(2, 1, 0, 0, 1, 1, 0, 1)", "change(4, 0, 0, 0, 1, 1, 0, 1)");
        due(1, "line(2, 4)");
        due(0, "line(4, 4)");
    }

    @Says(promise = 9, words = "UNKNOWN: PICTURES, LENS, SHEET; OUTSIDE: hour, lane; CAST; NULL; SIZE: n below 0; INDEX; -100 less it; STATE: as hush().")
    void theOrderOfChange() {
        inOrder(SOME, "change(2, 0, 0, 0, 1, 1, 0, 1)",
                because(UNKNOWN, "0:5", "1:5", "2:3", "4:4"), because(OUTSIDE, "3:1000", "3:-1", "5:3"),
                because(NULL, "4:3"), because(CAST, "5:0", "5:2"), because(SIZE, "7:-1"),
                because(INDEX, "6:-1", "6:8", "6:0,7:8"), because(FIRST_FAULT - 6, "6:0,7:7"),
                because(STATE, "0:1", "0:3", "1:2", "1:4"));
    }

    // ---- tear, line

    @Says(promise = 11, words = "A LINE is torn off: 1; 0: there was none.")
    void tornOnceAndAgain() {
        begin(SOME);
        due(0, "tear(2|4)");
        due(1, "tear(0|1|3)");
        due(0, "tear(0|1|3)");
        due(0, "many(2)");
        due(STATE, "line(0|1|3, 0)");
        refused(SOME, 0, "tear(2|4)");
    }

    @Says(promise = 11, words = "UNKNOWN.")
    void noSuchPictureIsTorn() {
        refused(SOME, UNKNOWN, "tear(-1|5|MIN|MAX)");
    }

    @Says(promise = 12, words = "Of a LINE: 0 kind, 1 LENS, 2 HOUR, 3 SEAL, 4 from which PICTURE (TAKEN: NONE), 5 how many ACTS (0).")
    void whatALineTells() {
        begin(SOME);
        int[][] told = {{0, 0, 100, x.line(0, 3), NONE, 0}, {1, 1, 200, x.line(1, 3), 0, 2}, {2, 2, 300, x.line(3, 3), 1, 0}};
        int[] pictures = {0, 1, 3};
        for (int k = 0; k < 3; k++) {
            for (int what = 0; what <= 5; what++) {
                due(told[k][what], "line(" + pictures[k] + ", " + what + ")");
            }
        }
        int[] six = {1, 2, 3, 40, 50, 99};
        due(seal(root(3, 2, six), 77, 100, 3, 2), "line(0, 3)");
        due(seal(root(2, 3, 45, 6, 55, 7, 99, 8), 5000, 200, 2, 3), "line(1, 3)");
        due(seal(root(2, 2, Arrays.copyOf(six, 4)), 9972, 300, 2, 2), "line(3, 3)");
    }

    @Says(promise = 12, words = "OUTSIDE")
    void aLineTellsNoMore() {
        refused(SOME, OUTSIDE, "line(0|1|3, -1|6|MIN|MAX)");
    }

    @Says(promise = 12, words = "STATE: there is none.")
    void noLineTellsNothing() {
        refused(SOME, STATE, "line(2|4, 0|1|2|3|4|5)");
    }

    @Says(promise = 12, words = "UNKNOWN; OUTSIDE; STATE: there is none.")
    void theOrderOfLine() {
        refused(SOME, UNKNOWN, "line(-1|5|MIN|MAX, 0|5)");
        inOrder(SOME, "line(0, 0)", because(UNKNOWN, "0:5", "0:-1"), because(OUTSIDE, "1:-1", "1:6"),
                because(STATE, "0:2", "0:4"));
    }
}
