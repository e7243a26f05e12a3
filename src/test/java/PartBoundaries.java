import java.math.BigInteger;

/** Promises 35 to 40: telling, showing, kinds, trace, faults, counts; and what refusals are. */
final class PartBoundaries extends Boundaries {
    private static final Scene SOME = Scene.SOME, FULL_SCENE = Scene.FULL;

    /** Pictures 0, 1, 2: taken, changed, silent, all at one hour. */
    private static Scene kinds(int hour) {
        return Scene.empty().draw(1, 1, 5).draw(1, 1, 5).draw(1, 1, 5).then("lens(7)").text(1, 0, "t")
                .then("take(0, 0, " + hour + ")", "change(1, 0, 0, " + hour + ", 1, 0, 0, 1)", "hush(2, 1, 0, " + hour + ")");
    }

    @Says(promise = 35, words = {
        "TAKEN (1): its HOUR. CHANGED (2): what TAKEN's gives, and 1000. SILENT (3): what CHANGED's gives, and what TAKEN's gives (CHANGED's left out).",
    })
    void tellingAtTheFirstAndTheLastHour() {
        for (int hour : new int[] {0, 1, 999}) {
            begin(kinds(hour));
            due(hour, "tell(0)");
            due(1, "trace()");
            due(hour + 1000, "tell(1)");
            due((31 + 2) * 31 + 1, "trace()");
            due(2 * hour + 1000, "tell(2)");
        }
    }

    @Says(promise = 35, words = "UNKNOWN; STATE: there is none.")
    void nothingIsTold() {
        refused(SOME, UNKNOWN, "tell(-1|5|MIN|MAX)");
        refused(SOME, STATE, "tell(2|4)");
        due(UNKNOWN, "tell(0)");
        due(0, "trace()");
    }

    @Says(promise = 36, words = "SHOWN by a lent body (4): its SEAL; SILENT ones have their own (5): 33.")
    void showingEachKind() {
        begin(kinds(999));
        due(seal(root(1, 1, 5), 7, 999, 1, 1), "show(0)");
        due(4, "trace()");
        due(seal(root(1, 1, 5), 7, 999, 1, 1), "show(1)");
        due(4 * 31 + 4, "trace()");
        due(33, "show(2)");
        due((4 * 31 + 4) * 31 + 5, "trace()");
        given("alter(0|1|2, 0, 6)");
        due(seal(root(1, 1, 5), 7, 999, 1, 1), "show(0|1)");
        due(33, "show(2)");
    }

    @Says(promise = 36, words = "UNKNOWN; STATE: there is none.")
    void nothingIsShown() {
        refused(SOME, UNKNOWN, "show(-1|5|MIN|MAX)");
        refused(SOME, STATE, "show(2|4)");
        due(UNKNOWN, "show(0)");
        due(0, "trace()");
    }

    @Says(promise = 37, words = "A PICTURE's LINE, taken as one of a kind: 1.")
    void eachKindIsOneOfTheLesser() {
        begin(kinds(5));
        due(1, "as(0|1|2, 0)");
        due(CAST, "as(0, 1|2)");
        due(1, "as(1|2, 1)");
        due(CAST, "as(1, 2)");
        due(1, "as(2, 2)");
    }

    @Says(promise = 37, words = "CAST: it is none such.")
    void aKindThatItIsNot() {
        refused(SOME, CAST, "as(0, 1|2)");
        refused(SOME, CAST, "as(1, 2)");
    }

    @Says(promise = 37, words = "UNKNOWN; OUTSIDE; STATE: there is none; CAST: it is none such.")
    void theOrderOfAs() {
        refused(SOME, UNKNOWN, "as(-1|5|MIN|MAX, 0)");
        refused(SOME, OUTSIDE, "as(0|1|3, -1|3|MIN|MAX)");
        refused(SOME, STATE, "as(2|4, 0|1|2)");
        inOrder(SOME, "as(0, 0)", because(UNKNOWN, "0:5", "0:-1"), because(OUTSIDE, "1:-1", "1:3"),
                because(STATE, "0:2", "0:4"), because(CAST, "1:1", "1:2"));
    }

    @Says(promise = 38, words = "TRACE (an int that wraps, 0 at first, becomes 31 times it and the number) as they begin")
    void theTraceWraps() {
        begin(kinds(5));
        due(0, "trace()");
        int[][] left = {{1}, {2, 1}, {3, 2, 1, 1}};
        BigInteger trace = BigInteger.ZERO;
        boolean wasBelow = false;
        for (int k = 0; k < 60; k++) {
            given("tell(" + k % 3 + ")");
            for (int number : left[k % 3]) {
                trace = trace.multiply(BigInteger.valueOf(31)).add(BigInteger.valueOf(number));
            }
            // The low 32 bits, with their sign.
            due(trace.intValue(), "trace()");
            wasBelow |= trace.intValue() < 0;
        }
        check.holds(wasBelow, "the trace came below 0");
        due(trace.intValue(), "trace()");
    }

    @Says(promise = 38, words = "TRACE.")
    void nothingElseLeavesATrace() {
        begin(kinds(5).then("tell(2)"));
        int trace = x.trace();
        given("speaks(0|1|2)", "way(2, -1)", "as(2, 0)", "many(0)", "cell(0, 0, 0)", "whole(2)");
        due(trace, "trace()");
    }

    @Says(promise = 39, words = {
        "The FAULT of the latest call that names one: 0: it came to none, or was refused (0 ahead of any).",
        "FAULTS are the machine's: 1 NULL (there is nothing), 2 CAST (it is of another LANE, kind)",
    })
    void eachFaultHasItsNumber() {
        due(0, "fault()");
        due(NULL, "put(0, 0, 0)");
        due(1, "fault()");
        given("sheet(0, 0, 1)");
        due(0, "fault()");
        due(CAST, "picture(1, 1, 0, 1, 0)");
        due(2, "fault()");
        due(INDEX, "put(0, 1, 0)");
        due(3, "fault()");
        due(SIZE, "sheet(0, 0, -1)");
        due(4, "fault()");
        due(4, "fault()");
        due(UNKNOWN, "sheet(4, 0, 1)");
        due(0, "fault()");
    }

    @Says(promise = 39, words = "They change nothing (but fault(), of a call that names FAULTS).")
    void justNineCallsClearAFault() {
        String[] clear = {"picture(1, 1, 0, 0, 0)", "change(2, 0, 0, 0, 1, 1, 0, 1)", "act(0, 1, 1, 0, 1)",
            "proves(0, 0, 0, 2, 2, 0)", "sheet(0, 0, 1)", "put(0, 0, 0)", "cell(0, 0, 0)", "copy(0, 0, 0, 0, 0)", "as(0, 0)"};
        for (String call : clear) {
            begin(SOME.then("sheet(0, 0, -1)"));
            due(4, "fault()");
            given(call);
            due(0, "fault()");
        }
        String[] keep = {"ofPicture(0, 0)", "alter(0, 0, 0)", "lens(1)", "steal(0, 0)", "take(2, 0, 0)", "hush(2, 0, 0, 0)",
            "tear(0)", "line(0, 0)", "speaks(0)", "play(1)", "within(0)", "way(0, 0)", "doubt(0)", "whole(0)", "proof(0, 0, 0)",
            "hide(0, 0)", "found(0, 0)", "falsely(0, 0, 0)", "like(0, 0)", "nearest(0, 0)", "coarse(0, 1)", "look(0, 1, 0)",
            "best(0, 0)", "doubtful()", "lose(0)", "tell(0)", "show(0)", "trace()", "fault()", "many(0)"};
        for (String call : keep) {
            begin(SOME.then("sheet(0, 0, -1)"));
            Call.one(call).on(x);
            due(4, "fault()");
        }
    }

    @Says(promise = 39, words = "They change nothing (but fault(), of a call that names FAULTS).")
    void aRefusalClearsAFaultOfItsOwnKindOfCall() {
        String[] clear = {"picture(1, 1, 4, 0, 0)", "picture(0, 1, 0, 0, 0)", "picture(1, 1, 0, 0, 7)",
            "change(9, 0, 0, 0, 1, 1, 0, 1)", "change(2, 0, 0, 0, 1, 1, 0, 7)", "change(1, 0, 0, 0, 1, 1, 0, 1)",
            "act(9, 1, 1, 0, 1)", "act(0, 1, 3, 0, 1)", "act(0, 1, 1, 0, 7)", "proves(16, 0, 0, 2, 2, 0)",
            "proves(0, 100, 0, 2, 2, 0)", "sheet(4, 0, 0)", "sheet(0, 3, 0)", "put(4, 0, 0)", "cell(4, 0, 0)",
            "cell(0, 0, 3)", "copy(4, 0, 0, 0, 0)", "as(9, 0)", "as(0, 3)", "as(2, 0)"};
        for (String call : clear) {
            begin(SOME.then("sheet(0, 0, -1)"));
            due(4, "fault()");
            check.holds(Call.one(call).on(x) < 0, call + " is refused");
            due(0, "fault()");
        }
    }

    @Says(promise = 40, words = "How many: 0 PICTURES, 1 LENSES, 2 LINES, 3 LOOKS.")
    void noneToAll() {
        due(0, "many(0|1|2|3)");
        begin(FULL_SCENE);
        due(12, "many(0)");
        due(6, "many(1)");
        due(11, "many(2)");
        due(9, "many(3)");
        given("take(2, 0, 0)");
        due(12, "many(2)");
        given("tear(0|1|2|3|4|5|6|7|8|9|10|11)");
        due(0, "many(2)");
        due(12, "many(0)");
    }

    @Says(promise = 40, words = "OUTSIDE.")
    void noSuchCount() {
        refused(SOME, OUTSIDE, "many(-1|4|MIN|MAX)");
    }

    @Says(promise = 40, words = {
        "REFUSALS: UNKNOWN (there is no such PICTURE, LENS, SHEET, place), OUTSIDE (another number is not as told), STATE (as told), FULL; of several the first in the order in which a call's line tells them.",
        "NONE is -9.",
    })
    void theConstants() {
        check.due(PicturePapers.UNKNOWN, -1, "UNKNOWN");
        check.due(PicturePapers.OUTSIDE, -2, "OUTSIDE");
        check.due(PicturePapers.STATE, -3, "STATE");
        check.due(PicturePapers.FULL, -4, "FULL");
        check.due(PicturePapers.NONE, -9, "NONE");
    }

    @Says(promise = 38, words = "An object is used for at most 512 calls after it has been made; what later calls answer is free.")
    void theLastOf512Calls() {
        Scene scene = kinds(5);
        begin(scene);
        int trace = 0;
        for (int call = scene.length(); call < 511; call++) {
            x.show(call % 2);
            trace = 31 * trace + 4;
        }
        due(trace, "trace()");
    }
}
