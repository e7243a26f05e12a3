/** What calls answer in plain use, worked out by hand: the sentences that name no boundary. */
final class AnswerSentences extends Boundaries {
    @Says(promise = 3, words = "two beside one another (0 and 1, 2 and 3 ..) make a number above: 31 times the left and 17 times the right and 5")
    void aTreeByHand() {
        draw(4, 1, 1, 2, 3, 4);
        // 2 and 3 make 118, 4 and 5 make 214, these 7301; with 245 of no squares 1122; with 1792 the root.
        due(10, "ofPicture(0, 2)");
        due(5413, "ofPicture(0, 3)");
        int[][] proofs = {{3, 214, 245, 1792}, {2, 214, 245, 1792}, {5, 118, 245, 1792}, {4, 118, 245, 1792}};
        for (int place = 0; place < 4; place++) {
            for (int k = 0; k < 4; k++) {
                due(proofs[place][k], "proof(0, " + place + ", " + k + ")");
            }
        }
        int[] ofNone = {0, 5, 7301, 1792};
        int[] beyond = {0, 5, 245, 1122};
        for (int k = 0; k < 4; k++) {
            due(ofNone[k], "proof(0, 4, " + k + ")");
            due(beyond[k], "proof(0, 15, " + k + ")");
        }
    }

    @Says(promise = 20, words = "Whether a SQUARE v (-1: none) at a place is proved by four cells of a SHEET from i on")
    void aProofByHand() {
        row(1, 1, 77, 5, 118, 245, 1792);
        due(1, "proves(2, 3, 5413, 1, 1, 1)");
        due(0, "proves(2, 4, 5413, 1, 1, 1)");
        due(0, "proves(3, 3, 5413, 1, 1, 1)");
        due(0, "proves(2, 3, 5414, 1, 1, 1)");
        row(1, 2, 0, 5, 7301, 1792);
        due(1, "proves(4|5, -1, 5413, 1, 2, 0)");
        due(0, "proves(4, 0, 5413, 1, 2, 0)");
    }

    @Says(promise = 7, words = "A PICTURE gets a LINE, TAKEN: its SEAL.")
    void aSealByHand() {
        draw(4, 1, 1, 2, 3, 4);
        given("lens(10)");
        // 54130, 260, 20 and 1, the rest by 9973.
        due(4546, "take(0, 0, 20)");
        due(4546, "line(0, 3)");
    }

    @Says(promise = 13, words = "How a LINE SPEAKS.")
    void aLineSpeaksInFiveWays() {
        for (int p = 0; p < 6; p++) {
            draw(2, 1, 10, 20);
        }
        given("lens(7)", "lens(8)", "steal(1, 300)", "take(0, 0, 100)", "hush(1, 0, 0, 200)", "take(2, 0, 100)");
        given("alter(2, 1, 21)", "take(3, 1, 300)", "take(5, 1, 299)");
        check.holds(change(4, 0, 0, 200, "l1") >= 0, "it is changed");
        due(0, "speaks(0|5)");
        due(1, "speaks(1)");
        due(2, "speaks(2)");
        due(3, "speaks(3)");
        due(4, "speaks(4)");
        given("within(1)");
        due(0, "speaks(4)");
        given("alter(0, 0, 11)");
        due(2, "speaks(0)");
        due(4, "speaks(4)");
        given("alter(0, 0, 8)");
        due(0, "speaks(4)");
        given("alter(0, 0, 12)");
        due(4, "speaks(4)");
    }

    @Says(promise = 14, words = "PLAYED ACTS of a LINE that is CHANGED (not SILENT): the first place at which the SQUARE is further off than WITHIN")
    void actsArePlayedAgain() {
        draw(3, 2, 1, 2, 3, 40, 50, 99);
        check.due(act(0, "c1022;t;l9"), 1, "act");
        squares(1, 2, 2, 59, 11, 99, 12);
        given("lens(7)");
        check.holds(change(1, 0, 0, 5, "c1022;t;l9") >= 0, "it is changed");
        due(NONE, "play(1)");
        given("alter(0, 6, 80)");
        due(4, "play(1)");
        given("alter(0, 1, 12)");
        due(1, "play(1)");
        given("within(10)");
        due(NONE, "play(1)");
        given("alter(0, 1, 13)");
        due(1, "play(1)");
        given("tear(1)", "hush(1, 0, 0, 5)");
        due(STATE, "play(1)");
    }

    @Says(promise = 22, words = "FOUND.")
    void aMarkIsFoundAgain() {
        draw(3, 2, 1, 2, 3, 40, 50, 99);
        // From the first square on: odd, even, odd, even, even, odd.
        due(6, "found(0, 37|101|165)");
        due(5, "found(0, 36|5)");
        due(0, "found(0, 26)");
        due(2, "hide(0, 44)");
        squares(0, 3, 2, 0, 2, 3, 39, 50, 99);
        due(6, "found(0, 44)");
        due(4, "found(0, 37)");
    }

    @Says(promise = 23, words = "FALSE of a MARK in a PICTURE: upper number (which 0), lower (1).")
    void aMarkIsFoundFalsely() {
        draw(3, 2, 1, 2, 3, 40, 50, 99);
        // Five of six: 7 of 64 ways; four of six: 22 of 64.
        due(7, "falsely(0, 36, 0)");
        due(64, "falsely(0, 36, 1)");
        due(11, "falsely(0, 32, 0)");
        due(32, "falsely(0, 32, 1)");
    }

    @Says(promise = 24, words = "LIKENESS.")
    void howLikeTwoAre() {
        draw(3, 2, 1, 2, 3, 40, 50, 99);
        draw(2, 2, 5, 5, 70, 90);
        // Means of 32 and 42, least of 1 and 5, greatest of 99 and 90.
        due(10 + 4 + 9, "like(0, 1)");
        due(10 + 4 + 9, "like(1, 0)");
        due(0, "like(1, 1)");
    }

    @Says(promise = 25, words = "The k-th NEAREST of a PICTURE (0 on)")
    void whatIsNearest() {
        int[] squares = {50, 90, 40, 55, 60};
        for (int square : squares) {
            draw(1, 1, square);
        }
        int[][] near = {{3, 2, 4, 1, NONE}, {4, 3, 0, 2, NONE}, {0, 3, 4, 1, NONE}, {0, 4, 2, 1, NONE}, {3, 0, 2, 1, NONE}};
        for (int p = 0; p < 5; p++) {
            for (int k = 0; k < 5; k++) {
                due(near[p][k], "nearest(" + p + ", " + k + ")");
            }
        }
        given("tear(3)", "alter(3, 0, 91)");
        due(2, "nearest(0, 0)");
        due(3, "nearest(1, 0)");
    }

    @Says(promise = 35, words = {
        "TELLING of LINES by bodies that leave their number in TRACE (an int that wraps, 0 at first, becomes 31 times it and the number) as they begin",
        "TELLING of a PICTURE's LINE.",
    })
    void aTraceByHand() {
        draw(1, 1, 5);
        draw(1, 1, 5);
        given("lens(7)", "take(0, 0, 20)", "hush(1, 0, 0, 30)");
        due(1060, "tell(1)");
        // 3, then 3 * 31 + 2, then 95 * 31 + 1, then 2946 * 31 + 1.
        due(91327, "trace()");
        due(20, "tell(0)");
        due(91327 * 31 + 1, "trace()");
    }

    @Says(promise = 36, words = "How it is SHOWN.")
    void shownByHand() {
        draw(4, 1, 1, 2, 3, 4);
        draw(4, 1, 1, 2, 3, 4);
        given("lens(10)", "take(0, 0, 20)", "hush(1, 0, 0, 20)");
        due(4546, "show(0)");
        due(4, "trace()");
        due(33, "show(1)");
        due(4 * 31 + 5, "trace()");
    }

    @Says(promise = 39, words = "Of a call the first that is come to, in the order told; it answers -10 less it")
    void ofSeveralFaultsTheFirst() {
        String[] allButNull = {"picture(1, 1, 0, 1, 9)", "act(0, 0, 1, 9, -1)", "change(1, 0, 0, 0, 0, 1, 9, -1)",
            "proves(0, 0, 0, 0, 1, 9)"};
        String[] allButCast = {"picture(1, 1, 3, 1, 9)", "act(0, 3, 1, 9, -1)", "change(1, 0, 0, 0, 3, 1, 9, -1)",
            "proves(0, 0, 0, 3, 1, 9)", "put(3, 9, 0)", "copy(3, 9, 0, 9, -1)", "copy(0, 9, 3, 9, -1)"};
        String[] sizeAndIndex = {"act(0, 0, 0, 9, -1)", "change(1, 0, 0, 0, 0, 0, 9, -1)"};
        draw(1, 1, 5);
        draw(1, 1, 5);
        given("lens(7)", "sheet(1, 1, 1)");
        first(CAST, 2, allButNull);
        first(CAST, 2, "copy(0, 9, 1, 9, -1)");
        first(NULL, 1, allButCast);
        first(SIZE, 4, sizeAndIndex);
        first(LOST, 2, "cell(0, 9, 1)");
        first(LOST, 1, "cell(3, 9, 1)");
        first(LOST, 3, "cell(0, 9, 0)");
    }

    private void first(long answer, int fault, String... calls) {
        for (String call : calls) {
            due(answer, call);
            due(fault, "fault()");
        }
    }
}
