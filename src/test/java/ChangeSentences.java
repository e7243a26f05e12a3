/** What an answered call changes: what its promise tells, and nothing else. */
final class ChangeSentences extends Boundaries {
    private static final Scene SOME = Scene.SOME;

    /** All that can be asked of a picture that had not come yet. */
    private static final String[] ALL_OF_PICTURE_5 = {
        "many(0)", "ofPicture(5, 0|1|2|3|10|11|12|13|14|15|16|17|18|19|20|21|22|23|24|25)",
        "line(5, 0|1|2|3|4|5)", "speaks(5)", "play(5)", "doubt(5)", "whole(5)",
    };

    @Says(promise = 2, words = "A PICTURE w by h by so many cells of a SHEET from i on, taken as a row of a LANE (n is w times h): its number.")
    void aPictureComes() {
        changesJust(SOME, "picture(3, 1, 0, 0, 2)", ALL_OF_PICTURE_5);
        begin(SOME);
        due(5, "picture(3, 1, 0, 0, 2)");
        squares(5, 3, 1, 3, 40, 50);
        due(STATE, "speaks(5)");
    }

    @Says(promise = 10, words = "A new PICTURE that comes of another one by ACTS by such a TEXT (without a LINE): its number.")
    void aPictureComesOfAnother() {
        changesJust(SOME, "act(4, 1, 1, 0, 4)", ALL_OF_PICTURE_5);
        begin(SOME);
        due(5, "act(4, 1, 1, 0, 4)");
        squares(5, 2, 1, 99, 55);
        squares(4, 1, 2, 50, 99);
        due(STATE, "line(5, 0)");
    }

    @Says(promise = 4, words = "The SQUARE at a place becomes v: what it was (LINES stay).")
    void aSquareIsAltered() {
        changesJust(SOME, "alter(0, 0, 2)", "ofPicture(0, 2|3|10)", "speaks(0)", "doubt(0|1|3)", "whole(0|1)", "doubtful()");
        changesJust(SOME, "alter(0, 0, 1)");
        changesJust(SOME, "alter(2, 0, 8)", "ofPicture(2, 2|3|10)", "take(2, 0|1|2, 0)");
    }

    @Says(promise = 5, words = "A LENS: its number.")
    void aLensComes() {
        changesJust(SOME, "lens(3)", "many(1)", "steal(3, 0)", "take(2, 3, 0)", "tear(2)");
        begin(SOME);
        due(3, "lens(3)");
        due(4, "lens(3)");
    }

    @Says(promise = 6, words = "A LENS is STOLEN from an HOUR on (1000: not): from when it was (1000: not).")
    void aLensIsStolen() {
        changesJust(SOME, "steal(0, 50)", "steal(0, 0)", "speaks(0)", "doubt(0|1|3)", "whole(0|1)", "doubtful()");
        changesJust(SOME, "steal(1, 200)", "steal(1, 0)", "speaks(1)", "doubt(1|3)", "whole(1)", "doubtful()");
        changesJust(SOME, "steal(1, 501)", "steal(1, 0)");
        changesJust(SOME, "steal(1, 500)");
    }

    @Says(promise = 7, words = "A PICTURE gets a LINE, TAKEN: its SEAL.")
    void aPictureIsTaken() {
        changesJust(SOME, "take(2, 1, 7)", "many(2)", "line(2, 0|1|2|3|4|5)", "speaks(2)", "doubt(2)", "whole(2)",
                "doubtful()", "take(2, 0, 0)");
        begin(SOME);
        int seal = seal(root(1, 1, 7), 5000, 7, 1, 1);
        due(seal, "take(2, 1, 7)");
        line(2, 0, 1, 7, seal, NONE, 0);
    }

    @Says(promise = 8, words = "A PICTURE gets a LINE, SILENT, from another one: its SEAL.")
    void aPictureIsHushed() {
        changesJust(SOME, "hush(2, 0, 1, 7)", "many(2)", "line(2, 0|1|2|3|4|5)", "speaks(2)", "doubt(2)",
                "doubtful()", "take(2, 0, 0)");
        begin(SOME);
        int seal = seal(root(1, 1, 7), 5000, 7, 1, 1);
        due(seal, "hush(2, 0, 1, 7)");
        line(2, 2, 1, 7, seal, 0, 0);
    }

    @Says(promise = 9, words = "A PICTURE gets a LINE, CHANGED, from another one by ACTS by a TEXT of n such cells: its SEAL")
    void aPictureIsChanged() {
        changesJust(SOME, "change(2, 0, 1, 7, 1, 1, 0, 4)", "many(2)", "line(2, 0|1|2|3|4|5)", "speaks(2)", "play(2)",
                "take(2, 0, 0)");
        begin(SOME);
        int seal = seal(root(1, 1, 7), 5000, 7, 1, 1);
        due(seal, "change(2, 0, 1, 7, 1, 1, 0, 4)");
        line(2, 1, 1, 7, seal, 0, 2);
    }

    private void line(int p, int kind, int lens, int hour, int seal, int from, int acts) {
        int[] told = {kind, lens, hour, seal, from, acts};
        for (int what = 0; what < told.length; what++) {
            due(told[what], "line(" + p + ", " + what + ")");
        }
    }

    @Says(promise = 11, words = "A LINE is torn off: 1; 0: there was none.")
    void aLineIsTornOff() {
        changesJust(SOME, "tear(1)", "many(2)", "line(1, 0|1|2|3|4|5)", "speaks(1)", "play(1)", "doubt(1|3)", "whole(1)",
                "doubtful()");
        changesJust(SOME, "tear(2)");
    }

    @Says(promise = 15, words = "WITHIN becomes v: what it was.")
    void withinBecomesAnother() {
        changesJust(SOME, "within(4)", "within(0)");
        changesJust(SOME, "within(3)");
        // Picture 1 was made of what 0 had: a square of 0 is 3 off by now, then 4.
        changesJust(SOME.then("alter(0, 4, 43)"), "within(2)", "within(0)", "speaks(1)", "play(1)", "doubt(1|3)");
        changesJust(SOME.then("alter(0, 4, 44)"), "within(4)", "within(0)", "speaks(1)", "play(1)", "doubt(1|3)");
    }

    @Says(promise = 21, words = "A MARK is hidden in a PICTURE: how many SQUARES became another number.")
    void aMarkIsHidden() {
        // Picture 1 is 2 by 3: 45, 6, 55, 7, 99, 8.
        changesJust(SOME, "hide(1, 0)", "ofPicture(1, 2|3|10|14|15|18)", "speaks(1)", "doubt(1|3)", "whole(1)", "doubtful()");
        changesJust(SOME, "hide(1, 29)");
        begin(SOME);
        due(4, "hide(1, 0)");
        squares(1, 2, 3, 44, 6, 54, 6, 98, 8);
    }

    @Says(promise = 27, words = "A LOOK: its number.")
    void aLookComes() {
        changesJust(SOME, "look(4, 9, 99)", "many(3)", "doubtful()",
                "best(" + numbers(9, 81) + ", 0|1)");
        changesJust(SOME, "look(0, 1, 0)", "many(3)");
        begin(SOME);
        due(3, "look(4, 9, 99)");
        due(4, "look(0, 1, 0)");
    }

    private static String numbers(int from, int to) {
        StringBuilder all = new StringBuilder().append(from);
        for (int k = from + 1; k <= to; k++) {
            all.append('|').append(k);
        }
        return all.toString();
    }

    @Says(promise = 30, words = "A SHEET gets a new row: 1.")
    void aSheetGetsARow() {
        changesJust(SOME, "sheet(3, 1, 2)", "cell(3, 0|1, 1)");
        changesJust(SOME, "sheet(3, 1, 0)");
        changesJust(SOME, "sheet(0, 0, 9)", "cell(0, 0|1|2|3|4|5|7|8|9, 0)");
        changesJust(SOME, "sheet(2, 0, 1)", "cell(2, 0|1|2|3|4|5, 2)", "cell(2, 0, 0)");
    }

    @Says(promise = 31, words = "A SHEET has nothing: 1; 0: it had nothing.")
    void aSheetLosesItsRow() {
        changesJust(SOME, "lose(0)", "cell(0, 0|1|2|3|4|5|6|7|8|9, 0)");
        changesJust(SOME, "lose(3)");
    }

    @Says(promise = 32, words = "Cell i of a SHEET becomes v: 1.")
    void aCellBecomesAnother() {
        changesJust(SOME, "put(0, 4, 300)", "cell(0, 4, 0)");
        changesJust(SOME, "put(0, 4, 306)");
        begin(SOME);
        due(1, "put(0, 4, 300)");
        due(44, "cell(0, 4, 0)");
    }

    @Says(promise = 34, words = "n cells of a SHEET from i on go to another one (perhaps the same) from j on, as they were: n.")
    void cellsAreCopied() {
        changesJust(SOME, "copy(0, 0, 0, 5, 3)", "cell(0, 5|6|7, 0)");
        changesJust(SOME, "copy(0, 3, 0, 3, 7)");
        Scene two = SOME.row(3, 1, 7, 8, 9);
        changesJust(two, "copy(1, 4, 3, 0, 2)", "cell(3, 0|1, 1)");
        changesJust(two, "copy(3, 1, 1, 0, 2)", "cell(1, 0|1, 1)");
    }

    @Says(promise = 35, words = "TELLING of a PICTURE's LINE.")
    void aTellingLeavesATrace() {
        changesJust(SOME, "tell(0)", "trace()");
        changesJust(SOME, "tell(1)", "trace()");
        changesJust(SOME, "tell(3)", "trace()");
    }

    @Says(promise = 36, words = "How it is SHOWN.")
    void aShowingLeavesATrace() {
        changesJust(SOME, "show(0)", "trace()");
        changesJust(SOME, "show(1)", "trace()");
        changesJust(SOME, "show(3)", "trace()");
    }

    @Says(promise = 40, words = "How many: 0 PICTURES, 1 LENSES, 2 LINES, 3 LOOKS.")
    void askingChangesNothing() {
        String[] questions = {
            "ofPicture(0, 0)", "ofPicture(0, 3)", "ofPicture(0, 10)", "line(1, 3)", "line(3, 5)", "speaks(0)", "speaks(1)",
            "play(1)", "way(3, -1)", "way(3, 2)", "doubt(3)", "whole(1)", "proof(0, 5, 3)", "proves(3, 2, 9, 2, 2, 2)",
            "found(0, 5)", "falsely(0, 5, 0)", "like(0, 1)", "nearest(0, 1)", "coarse(0, 7)", "best(9, 0)", "doubtful()",
            "cell(0, 1, 0)", "as(3, 1)", "trace()", "fault()", "many(2)",
        };
        for (String question : questions) {
            changesJust(SOME, question);
            begin(SOME);
            long first = Call.one(question).on(x);
            check.holds(first >= 0 || first == NONE, question + " is not refused");
            due(first, question);
        }
    }
}
