import java.util.Arrays;

/** Promises 13 to 20: how lines speak, ways home, proofs. */
final class WayBoundaries extends Boundaries {
    private static final Scene SOME = Scene.SOME, FULL_SCENE = Scene.FULL;

    /** Pictures 0 and 1 of one square, lens 0; 1 is changed from 0 by a text that leaves it as it is. */
    private static Scene pair(int square, int other) {
        return Scene.empty().draw(1, 1, square).draw(1, 1, other).then("lens(7)", "take(0, 0, 500)")
                .text(1, 0, "t").then("change(1, 0, 0, 500, 1, 0, 0, 1)");
    }

    // ---- speaks

    @Says(promise = 13, words = "A LINE SPEAKS: 0 it is whole; 1 it is SILENT; 2 its SEAL is not that of the PICTURE as it is now")
    void aSealIsBrokenByOne() {
        begin(SOME);
        due(0, "speaks(0|1)");
        due(1, "speaks(3)");
        due(99, "alter(0, 6, 98)");
        due(2, "speaks(0)");
        due(98, "alter(0, 6, 99)");
        due(0, "speaks(0)");
        due(1, "alter(3, 0, 0)");
        due(2, "speaks(3)");
        due(0, "alter(3, 0, 1)");
        due(1, "speaks(3)");
    }

    @Says(promise = 13, words = "3 its LENS was STOLEN by then (its HOUR or ahead)")
    void stolenByThen() {
        begin(pair(50, 50));
        given("steal(0, 501)");
        due(0, "speaks(0|1)");
        given("steal(0, 500)");
        due(3, "speaks(0|1)");
        given("steal(0, 499)");
        due(3, "speaks(0|1)");
        given("steal(0, 0)");
        due(3, "speaks(0|1)");
        given("steal(0, 1000)");
        due(0, "speaks(0|1)");
        given("steal(0, 999)");
        due(0, "speaks(0|1)");
    }

    @Says(promise = 13, words = "perhaps STOLEN from an HOUR on.")
    void stolenAtTheFirstAndTheLastHour() {
        draw(1, 1, 5);
        draw(1, 1, 5);
        given("lens(7)", "take(0, 0, 999)", "take(1, 0, 0)");
        due(0, "speaks(0|1)");
        given("steal(0, 999)");
        due(3, "speaks(0)");
        due(0, "speaks(1)");
        given("steal(0, 1)");
        due(0, "speaks(1)");
        given("steal(0, 0)");
        due(3, "speaks(0|1)");
        given("steal(0, 1000)");
        due(0, "speaks(0|1)");
    }

    @Says(promise = 13, words = "perhaps STOLEN from an HOUR on.")
    void anotherLensIsNotStolen() {
        begin(SOME.then("steal(0, 0)"));
        due(3, "speaks(0)");
        due(0, "speaks(1)");
        due(1, "speaks(3)");
    }

    @Says(promise = 13, words = "or some SQUARE that is further from its own than WITHIN (0 .. 20; 0 at first).")
    void furtherThanWithin() {
        int[] within = {0, 1, 19, 20};
        for (int far : within) {
            begin(pair(50, 50 + far).then("within(" + far + ")"));
            due(0, "speaks(1)");
            begin(pair(50, 50 - far).then("within(" + far + ")"));
            due(0, "speaks(1)");
            begin(pair(50, 51 + far).then("within(" + far + ")"));
            due(4, "speaks(1)");
            begin(pair(50, 49 - far).then("within(" + far + ")"));
            due(4, "speaks(1)");
        }
        begin(pair(50, 51));
        due(4, "speaks(1)");
        begin(pair(99, 0).then("within(20)"));
        due(4, "speaks(1)");
    }

    @Says(promise = 13, words = "4 its ACTS, PLAYED on what it comes from as that is now, CANNOT be done, or give another size")
    void actsThatDoNotGiveIt() {
        draw(2, 1, 5, 5);
        draw(2, 1, 5, 5);
        given("lens(7)");
        change(1, 0, 0, 0, "c0021");
        due(0, "speaks(1)");
        given("tear(1)");
        change(1, 0, 0, 0, "c0031");
        due(4, "speaks(1)");
        given("tear(1)");
        change(1, 0, 0, 0, "c0011");
        due(4, "speaks(1)");
        given("tear(1)");
        change(1, 0, 0, 0, "t");
        due(4, "speaks(1)");
        given("tear(1)");
        change(1, 0, 0, 0, "t;t");
        due(0, "speaks(1)");
        given("alter(0, 0, 6)");
        due(4, "speaks(1)");
        given("alter(0, 0, 5)");
        due(0, "speaks(1)");
    }

    @Says(promise = 13, words = "Of several 3, then 2, then 4, then 1.")
    void ofSeveralTheFirst() {
        begin(pair(50, 51));
        due(4, "speaks(1)");
        given("alter(1, 0, 52)");
        due(2, "speaks(1)");
        given("steal(0, 500)");
        due(3, "speaks(1)");
        given("alter(1, 0, 51)");
        due(3, "speaks(1)");
        begin(Scene.empty().draw(1, 1, 50).draw(2, 1, 9, 9).then("lens(7)", "hush(1, 0, 0, 500)"));
        due(1, "speaks(1)");
        given("alter(1, 0, 8)");
        due(2, "speaks(1)");
        given("steal(0, 500)");
        due(3, "speaks(1)");
        given("alter(1, 0, 9)");
        due(3, "speaks(1)");
        given("steal(0, 501)");
        due(1, "speaks(1)");
    }

    @Says(promise = 13, words = "what was done is not told; each by a LENS at an HOUR, with the SEAL as it was then.")
    void aSilentOneIsNotPlayed() {
        begin(Scene.empty().draw(1, 1, 50).draw(2, 1, 9, 9).then("lens(7)", "hush(1, 0, 0, 500)"));
        due(1, "speaks(1)");
        given("alter(0, 0, 0)");
        due(1, "speaks(1)");
        due(STATE, "play(1)");
    }

    @Says(promise = 13, words = "UNKNOWN; STATE: there is none.")
    void noLineSpeaks() {
        refused(SOME, UNKNOWN, "speaks(-1|5|MIN|MAX)");
        refused(SOME, STATE, "speaks(2|4)");
        refused(FULL_SCENE, UNKNOWN, "speaks(12)");
    }

    // ---- play

    @Says(promise = 14, words = "the first place at which the SQUARE is further off than WITHIN; NONE: there is none")
    void theFirstAndTheLastPlaceFurtherOff() {
        int[] squares = new int[16];
        Arrays.fill(squares, 50);
        draw(4, 4, squares);
        draw(4, 4, squares);
        given("lens(7)");
        change(1, 0, 0, 0, "c0044");
        due(NONE, "play(1)");
        for (int place = 15; place >= 0; place--) {
            given("alter(1, " + place + ", " + (place % 2 == 0 ? 71 : 29) + ")");
            due(place, "play(1)");
            given("within(20)");
            due(place, "play(1)");
            given("within(0)");
        }
        for (int place = 15; place >= 1; place--) {
            given("alter(1, " + place + ", " + (place % 2 == 0 ? 70 : 30) + ")");
        }
        given("alter(1, 0, 70)", "within(20)");
        due(NONE, "play(1)");
        given("within(19)");
        due(0, "play(1)");
    }

    @Says(promise = 14, words = "-20: it CANNOT be done; -21: another size.")
    void whatCannotBePlayed() {
        draw(3, 2, 1, 2, 3, 4, 5, 6);
        draw(3, 2, 1, 2, 3, 4, 5, 6);
        given("lens(7)");
        String[] texts = {"c0032", "c0042", "c0033", "c0000", "c0022", "c0031", "t", "t;c0042", "t;t", "b0033", "c0021;l1"};
        int[] due = {NONE, -20, -20, -20, -21, -21, -21, -20, 0, -20, -21};
        for (int k = 0; k < texts.length; k++) {
            change(1, 0, 0, 0, texts[k]);
            check.due(x.play(1), due[k], "play of " + texts[k]);
            given("tear(1)");
        }
    }

    @Says(promise = 14, words = "-20: it CANNOT be done; -21: another size.")
    void withinDoesNotMendASize() {
        begin(Scene.empty().draw(2, 1, 0, 0).draw(1, 2, 0, 0).then("lens(7)", "within(20)")
                .text(1, 0, "c0021").then("change(1, 0, 0, 0, 1, 0, 0, 5)"));
        due(-21, "play(1)");
    }

    @Says(promise = 14, words = "UNKNOWN; STATE: it has no such LINE.")
    void noSuchLineIsPlayed() {
        refused(SOME, UNKNOWN, "play(-1|5|MIN|MAX)");
        refused(SOME, STATE, "play(0|2|3|4)");
        begin(SOME);
        due(NONE, "play(1)");
    }

    // ---- within

    @Says(promise = 15, words = "WITHIN becomes v: what it was.")
    void withinIsZeroToTwenty() {
        due(0, "within(20)");
        due(20, "within(0)");
        due(0, "within(1)");
        due(1, "within(19)");
        due(19, "within(19)");
    }

    @Says(promise = 15, words = "OUTSIDE.")
    void withinIsNoMore() {
        refused(SOME, OUTSIDE, "within(-1|21|MIN|MAX)");
        due(OUTSIDE, "within(-1|21)");
        due(0, "within(0)");
    }

    // ---- way, doubt, whole

    /** Each of twelve pictures is turned from the one ahead of it, the first is taken. */
    private static Scene longest() {
        Scene scene = Scene.empty().row(0, 0, 50).text(1, 0, "t").then("lens(7)");
        for (int p = 0; p < 12; p++) {
            scene = scene.then("picture(1, 1, 0, 0, 0)");
        }
        scene = scene.then("take(0, 0, 500)");
        for (int p = 1; p < 12; p++) {
            scene = scene.then("change(" + p + ", " + (p - 1) + ", 0, 500, 1, 0, 0, 1)");
        }
        return scene;
    }

    @Says(promise = 16, words = "How long THE WAY is (k -1: how many PICTURES), the k-th one (NONE).")
    void theLongestWay() {
        begin(longest());
        for (int p = 0; p < 12; p++) {
            due(p + 1, "way(" + p + ", -1)");
            for (int k = 0; k < 12; k++) {
                due(k <= p ? p - k : NONE, "way(" + p + ", " + k + ")");
            }
        }
    }

    @Says(promise = 16, words = "THE WAY of a PICTURE: it, and what it comes from, and so on, to one that is TAKEN or has no LINE.")
    void theShortestWay() {
        begin(longest().then("tear(5)"));
        due(1, "way(5|0, -1)");
        due(5, "way(5, 0)");
        due(NONE, "way(5|0, 1|11)");
        due(7, "way(11, -1)");
        due(5, "way(11, 6)");
        due(NONE, "way(11, 7)");
        given("take(5, 0, 0)");
        due(7, "way(11, -1)");
        given("tear(5)", "hush(5, 0, 0, 0)");
        due(8, "way(11, -1)");
        due(0, "way(11, 7)");
    }

    @Says(promise = 16, words = "UNKNOWN: PICTURE, k is not -1 .. 11.")
    void noSuchWay() {
        refused(SOME, UNKNOWN, "way(-1|5|MIN|MAX, -1|0)");
        refused(SOME, UNKNOWN, "way(0|3, -2|12|MIN|MAX)");
        begin(SOME);
        due(NONE, "way(3, 3|10|11)");
    }

    @Says(promise = 17, words = {"DOUBT: the PICTURE; NONE.", "DOUBT: the first one on it that has no LINE, or whose LINE SPEAKS 2, 3 or 4."})
    void theFirstDoubtOnAWay() {
        begin(longest());
        due(NONE, "doubt(0|11)");
        given("tear(0)");
        due(0, "doubt(0|1|11)");
        given("tear(1)");
        due(1, "doubt(1|11)");
        due(0, "doubt(0)");
        given("alter(3, 0, 51)");
        due(4, "doubt(4|11)");
        due(3, "doubt(3)");
        given("within(1)");
        due(3, "doubt(3|4|11)");
        given("tear(11)");
        due(11, "doubt(11)");
        given("steal(0, 500)");
        due(10, "doubt(10)");
        due(2, "doubt(2)");
    }

    @Says(promise = 17, words = "DOUBT: the first one on it that has no LINE, or whose LINE SPEAKS 2, 3 or 4.")
    void silenceIsNoDoubt() {
        begin(SOME);
        due(1, "speaks(3)");
        due(NONE, "doubt(3)");
        due(2, "doubt(2)");
        given("alter(0, 0, 2)");
        due(0, "doubt(0|1|3)");
    }

    @Says(promise = 17, words = "UNKNOWN.")
    void noSuchPictureIsDoubted() {
        refused(SOME, UNKNOWN, "doubt(-1|5|MIN|MAX)");
    }

    @Says(promise = 18, words = {"Whether THE WAY is WHOLE: 1, 0.", "WHOLE: no DOUBT, none SILENT."})
    void wholeToTheEnd() {
        begin(longest());
        due(1, "whole(0|1|11)");
        given("tear(6)", "hush(6, 5, 0, 500)");
        due(NONE, "doubt(11)");
        due(0, "whole(6|7|11)");
        due(1, "whole(0|5)");
        given("tear(6)");
        due(0, "whole(6|11)");
        given("take(6, 0, 500)");
        due(1, "whole(6|11)");
        given("alter(0, 0, 49)", "within(1)");
        due(0, "whole(0|5)");
        due(1, "whole(6|11)");
    }

    @Says(promise = 18, words = "UNKNOWN.")
    void noSuchPictureIsWhole() {
        refused(SOME, UNKNOWN, "whole(-1|5|MIN|MAX)");
    }

    // ---- proofs

    @Says(promise = 19, words = "A PROOF of a place: four numbers, each what is beside its number on the way up.")
    void theProofOfTheFirstAndTheLastPlace() {
        draw(2, 1, 5, 9);
        int[][] first = {{0, 10}, {1, 5}, {2, 245}, {3, 1792}};
        for (int[] number : first) {
            due(number[1], "proof(0, 0, " + number[0] + ")");
        }
        due(0, "proof(0, 15, 0)");
        due(5, "proof(0, 15, 1)");
        due(245, "proof(0, 15, 2)");
        due(4826, "proof(0, 15, 3)");
    }

    @Says(promise = 19, words = {"The k-th number of a PROOF of a place (0 .. 3, from below).", "UNKNOWN: PICTURE, place (0 .. 15), k."})
    void noSuchProof() {
        refused(SOME, UNKNOWN, "proof(-1|5|MIN|MAX, 0, 0)");
        refused(SOME, UNKNOWN, "proof(0, -1|16|MIN|MAX, 0|3)");
        refused(SOME, UNKNOWN, "proof(0, 0|15, -1|4|MIN|MAX)");
        begin(SOME);
        for (int place = 0; place < 16; place++) {
            for (int k = 0; k < 4; k++) {
                check.holds(x.proof(2, place, k) >= 0, "proof of place " + place + ", " + k);
            }
        }
    }

    /** The proof of a place of picture 0 on sheet 2, with a cell ahead of it and one behind it. */
    private void writeProof(int place) {
        row(2, 2, 9, x.proof(0, place, 0), x.proof(0, place, 1), x.proof(0, place, 2), x.proof(0, place, 3), 9);
    }

    @Says(promise = 20, words = "Whether a SQUARE v (-1: none) at a place is proved by four cells of a SHEET from i on")
    void eachPlaceIsProved() {
        int[] squares = {0, 99, 1, 98, 50, 0, 7, 8, 9};
        draw(3, 3, squares);
        int root = root(3, 3, squares);
        due(root, "ofPicture(0, 3)");
        for (int place = 0; place < 16; place++) {
            writeProof(place);
            int v = squareAt(place, squares);
            due(1, "proves(" + place + ", " + v + ", " + root + ", 2, 2, 1)");
            int other = v == 99 ? 98 : v + 1;
            due(0, "proves(" + place + ", " + other + ", " + root + ", 2, 2, 1)");
            // Two places beside one another that have the same have the same proof, too.
            boolean isSame = squareAt(place ^ 1, squares) == v;
            due(isSame ? 1 : 0, "proves(" + (place ^ 1) + ", " + v + ", " + root + ", 2, 2, 1)");
            due(0, "proves(" + place + ", " + v + ", " + root + ", 2, 2, 0|2)");
        }
    }

    /** Of 3 by 3 squares. */
    private static int squareAt(int place, int[] squares) {
        return place % 4 < 3 && place < 12 ? squares[place % 4 + 3 * (place / 4)] : -1;
    }

    @Says(promise = 20, words = "for a ROOT: 1, 0.")
    void forTheRootAlone() {
        draw(1, 1, 0);
        writeProof(0);
        due(1, "proves(0, 0, 2269, 2, 2, 1)");
        due(0, "proves(0, 0, 2268|2270|-1|9973|12242|-7704|MIN|MAX, 2, 2, 1)");
        due(0, "fault()");
    }

    @Says(promise = 20, words = "(0 .. 9972 each; else it is not)")
    void numbersBeyondProveNothing() {
        draw(4, 1, 0, 99, 5, 6);
        int root = x.ofPicture(0, 3);
        for (int cell = 1; cell <= 4; cell++) {
            writeProof(0);
            int was = (int) x.cell(2, cell, 2);
            due(1, "proves(0, 0, " + root + ", 2, 2, 1)");
            given("put(2, " + cell + ", " + (was + 9973) + ")");
            due(0, "proves(0, 0, " + root + ", 2, 2, 1)");
            given("put(2, " + cell + ", " + (was - 9973) + ")");
            due(0, "proves(0, 0, " + root + ", 2, 2, 1)");
            due(0, "fault()");
        }
    }

    @Says(promise = 20, words = "(0 .. 9972 each; else it is not)")
    void theLeastAndTheGreatestNumberProve() {
        for (int cell = 0; cell < 4; cell++) {
            for (int number : new int[] {-1, 0, 9972, 9973}) {
                x = new PicturePapers();
                int[] cells = new int[4];
                cells[cell] = number;
                row(2, 2, cells);
                boolean is = number >= 0 && number <= 9972;
                // Of place 15 each number is the left one.
                long up = 100;
                for (int k = 0; k < 4; k++) {
                    up = Math.floorMod(31L * cells[k] + 17 * up + 5, 9973L);
                }
                due(is ? 1 : 0, "proves(15, 99, " + up + ", 2, 2, 0)");
                up = 0;
                for (int k = 0; k < 4; k++) {
                    up = Math.floorMod(31 * up + 17L * cells[k] + 5, 9973L);
                }
                due(is ? 1 : 0, "proves(0, -1, " + up + ", 2, 2, 0)");
            }
        }
    }

    @Says(promise = 20, words = "UNKNOWN: SHEET, place")
    void noSuchSheetOrPlaceProves() {
        refused(SOME, UNKNOWN, "proves(0, 0, 0, -1|4|MIN|MAX, 2, 0)");
        refused(SOME, UNKNOWN, "proves(-1|16|MIN|MAX, 0, 0, 2, 2, 0)");
    }

    @Says(promise = 20, words = "OUTSIDE: v, lane")
    void aSquareOrALaneOutsideProves() {
        refused(SOME, OUTSIDE, "proves(0|15, -2|100|MIN|MAX, 0, 2, 2, 0)");
        refused(SOME, OUTSIDE, "proves(0, 0, 0, 2, -1|3|MIN|MAX, 0)");
        begin(SOME);
        due(0, "proves(0|15, -1|0|99, 0, 2, 2, 0)");
    }

    @Says(promise = 20, words = "CAST")
    void anotherLaneProves() {
        refused(SOME, CAST, "proves(0, 0, 0, 0, 1|2, 0)");
        refused(SOME, CAST, "proves(0, 0, 0, 1, 0|2, 0)");
        refused(SOME, CAST, "proves(0, 0, 0, 2, 0|1, 0)");
    }

    @Says(promise = 20, words = "NULL")
    void nothingProves() {
        refused(SOME, NULL, "proves(0, 0, 0, 3, 0|1|2, 0)");
    }

    @Says(promise = 20, words = "INDEX")
    void fourCellsThatAreNotThereProve() {
        refused(SOME, INDEX, "proves(0, 0, 0, 2, 2, -1|3|4|6|7|MIN|MAX)");
        refused(SOME, 0, "proves(0, 0, 0, 2, 2, 0|1|2)");
        refused(SOME.row(3, 0, 1, 2, 3), INDEX, "proves(0, 0, 0, 3, 0, -1|0|1)");
        refused(SOME.row(3, 0, 1, 2, 3, 4), 0, "proves(0, 0, 0, 3, 0, 0)");
    }

    @Says(promise = 20, words = "UNKNOWN: SHEET, place; OUTSIDE: v, lane; CAST; NULL; INDEX.")
    void theOrderOfProves() {
        inOrder(SOME, "proves(0, 0, 0, 2, 2, 0)", because(UNKNOWN, "3:4", "3:-1", "0:16", "0:-1"),
                because(OUTSIDE, "1:-2", "1:100", "4:3", "4:-1"), because(NULL, "3:3"), because(CAST, "4:0", "4:1"),
                because(INDEX, "5:-1", "5:3"));
    }
}
