import java.util.Arrays;

/** Promises 1 to 4: a new object, pictures, their squares. */
final class PictureBoundaries extends Boundaries {
    private static final Scene SOME = Scene.SOME, FULL_SCENE = Scene.FULL;

    @Says(promise = 1, words = "No PICTURES, LENSES, LOOKS, SHEETS.")
    void aNewObjectHasNothing() {
        due(0, "many(0|1|2|3)");
        due(UNKNOWN, "ofPicture(0, 0)");
        due(UNKNOWN, "steal(0, 0)");
        due(0, "best(0|99, 0|1|2)");
        due(0, "doubtful()");
        due(NULL, "put(0|1|2|3, 0, 0)");
        due(0, "lose(0|1|2|3)");
    }

    @Says(promise = 1, words = "No PICTURES, LENSES, LOOKS, SHEETS.")
    void objectsShareNothing() {
        begin(FULL_SCENE.then("sheet(3, 0, 60)"));
        PicturePapers full = x;
        x = new PicturePapers();
        aNewObjectHasNothing();
        due(0, "trace()");
        due(0, "within(20)");
        x = full;
        due(12, "many(0)");
        due(3, "within(0)");
    }

    @Says(promise = 2, words = {"==== 1 PICTURES, 12 ever, numbered as they come", "FULL"})
    void thereAreTwelvePicturesEver() {
        row(0, 0, 50);
        for (int p = 0; p < 12; p++) {
            due(p, "picture(1, 1, 0, 0, 0)");
            due(p + 1, "many(0)");
        }
        due(FULL, "picture(1, 1, 0, 0, 0)");
        due(12, "many(0)");
        given("lens(1)", "take(11, 0, 0)", "tear(11)");
        due(FULL, "picture(1, 1, 0, 0, 0)");
        refused(FULL_SCENE, FULL, "picture(1|3, 1|2, 0, 0, 0)");
    }

    @Says(promise = 2, words = "w by h SQUARES (1 .. 4 each), row by row")
    void eachSideIsOneToFour() {
        int[] squares = {11, 12, 13, 14, 15, 16, 17, 18, 19, 20, 21, 22, 23, 24, 25, 26};
        for (int w = 1; w <= 4; w++) {
            for (int h = 1; h <= 4; h++) {
                x = new PicturePapers();
                row(0, 0, squares);
                due(0, "picture(" + w + ", " + h + ", 0, 0, 0)");
                squares(0, w, h, squares);
            }
        }
    }

    @Says(promise = 2, words = "OUTSIDE: w, h, lane")
    void aSideOrALaneIsOutside() {
        refused(SOME, OUTSIDE, "picture(0|5|-1|MIN|MAX, 1, 0, 0, 0)");
        refused(SOME, OUTSIDE, "picture(1, 0|5|-1|MIN|MAX, 0, 0, 0)");
        refused(SOME, OUTSIDE, "picture(1, 1, 0, -1|3|MIN|MAX, 0)");
    }

    @Says(promise = 2, words = "OUTSIDE: w, h, lane")
    void sidesWhoseProductWrapsAreOutside() {
        refused(SOME, OUTSIDE, "picture(65536, 65536, 0, 0, 0)");
        refused(SOME, OUTSIDE, "picture(-1, -1, 0, 0, 0)");
        refused(SOME, OUTSIDE, "picture(-2, -2|-3, 0, 0, 0)");
    }

    @Says(promise = 2, words = {", 0 .. 99 each;", "OUTSIDE: a SQUARE"})
    void aSquareIsZeroToNinetyNine() {
        row(2, 2, 0, 99, -1, 100, Integer.MIN_VALUE, Integer.MAX_VALUE, 256, 65536);
        due(0, "picture(2, 1, 2, 2, 0)");
        squares(0, 2, 1, 0, 99);
        due(OUTSIDE, "picture(1, 1, 2, 2, 2|3|4|5|6|7)");
        due(0, "fault()");
        refused(SOME, OUTSIDE, "picture(1, 1, 0, 0, 7|8)");
    }

    @Says(promise = 2, words = "OUTSIDE: a SQUARE")
    void noSquareOfAllMayBeOutside() {
        for (int wrong = 0; wrong < 16; wrong++) {
            x = new PicturePapers();
            int[] squares = new int[16];
            squares[wrong] = 100;
            row(0, 0, squares);
            due(OUTSIDE, "picture(4, 4, 0, 0, 0)");
            squares[wrong] = -1;
            row(0, 0, squares);
            due(OUTSIDE, "picture(4, 4, 0, 0, 0)");
            due(0, "many(0)");
        }
    }

    @Says(promise = 2, words = "from i on, taken as a row of a LANE (n is w times h): its number.")
    void justSoManyCellsAreTaken() {
        row(0, 1, 100, 5, 6, 7, 8, 100);
        due(0, "picture(2, 2, 0, 1, 1)");
        squares(0, 2, 2, 5, 6, 7, 8);
        due(OUTSIDE, "picture(2, 2, 0, 1, 0|2)");
    }

    @Says(promise = 2, words = "from i on, taken as a row of a LANE (n is w times h): its number.")
    void aRefusedPictureTakesNoNumber() {
        row(0, 0, 5, 100);
        due(0, "picture(1, 1, 0, 0, 0)");
        due(OUTSIDE, "picture(1, 1, 0, 0, 1)");
        due(INDEX, "picture(1, 1, 0, 0, 2)");
        due(UNKNOWN, "picture(1, 1, 4, 0, 0)");
        due(1, "picture(1, 1, 0, 0, 0)");
    }

    @Says(promise = 2, words = "from i on, taken as a row of a LANE (n is w times h): its number.")
    void aPictureStaysAsItsRowChanges() {
        row(0, 0, 5, 6);
        given("picture(2, 1, 0, 0, 0)", "put(0, 0|1, 9)");
        squares(0, 2, 1, 5, 6);
        given("sheet(0, 2, 0)", "lose(0)");
        squares(0, 2, 1, 5, 6);
    }

    @Says(promise = 2, words = "UNKNOWN: SHEET")
    void aPictureOfNoSheet() {
        refused(SOME, UNKNOWN, "picture(1, 1, -1|4|MIN|MAX, 0, 0)");
    }

    @Says(promise = 2, words = "CAST (nothing is no CAST)")
    void aPictureOfAnotherLane() {
        refused(SOME, CAST, "picture(1, 1, 0, 1|2, 0)");
        refused(SOME, CAST, "picture(1, 1, 1, 0|2, 0)");
        refused(SOME, CAST, "picture(1, 1, 2, 0|1, 0)");
        refused(SOME.then("sheet(0, 0, 0)"), CAST, "picture(1, 1, 0, 1|2, 0)");
    }

    @Says(promise = 2, words = "NULL")
    void aPictureOfNothingIsNoCast() {
        refused(SOME, NULL, "picture(1, 1, 3, 0|1|2, -1|0|99)");
        refused(SOME.then("lose(0)"), NULL, "picture(1, 1, 0, 0|1|2, 0)");
    }

    @Says(promise = 2, words = "INDEX")
    void aPictureBeyondTheRow() {
        refused(SOME, INDEX, "picture(1, 1, 0, 0, -1|10|11|MIN|MAX)");
        refused(SOME, INDEX, "picture(3, 2, 0, 0, -1|5|-5|MIN|MAX)");
        refused(SOME, INDEX, "picture(4, 4, 0, 0, 0|2147483632|2147483633)");
        refused(SOME.then("sheet(0, 0, 0)"), INDEX, "picture(1, 1, 0, 0, -1|0|1)");
    }

    @Says(promise = 2, words = "INDEX")
    void aPictureUpToTheRowsEnd() {
        int[] squares = new int[60];
        Arrays.fill(squares, 44, 60, 7);
        row(0, 0, squares);
        due(INDEX, "picture(4, 4, 0, 0, 45)");
        due(0, "picture(4, 4, 0, 0, 44)");
        due(1, "picture(1, 1, 0, 0, 59)");
        due(INDEX, "picture(1, 1, 0, 0, 60)");
        squares(0, 4, 4, Arrays.copyOfRange(squares, 44, 60));
    }

    @Says(promise = 2, words = "UNKNOWN: SHEET; OUTSIDE: w, h, lane; CAST (nothing is no CAST); NULL; INDEX; OUTSIDE: a SQUARE; FULL.")
    void theOrderOfPicture() {
        Cause[] causes = {
            because(UNKNOWN, "2:4", "2:-1"), because(OUTSIDE, "0:0", "1:5", "3:3"), because(NULL, "2:3"),
            because(CAST, "3:1", "3:2"), because(INDEX, "4:-1", "4:10", "0:4,1:1,4:7"), because(OUTSIDE, "4:7", "4:8"),
            because(FULL, ""),
        };
        inOrder(FULL_SCENE, "picture(1, 1, 0, 0, 0)", causes);
        inOrder(SOME, "picture(1, 1, 0, 0, 0)", Arrays.copyOf(causes, causes.length - 1));
    }

    @Says(promise = 3, words = "the SQUARE at x, y is at place x and 4 y (0 .. 15).")
    void placesAreZeroToFifteen() {
        draw(4, 4, 10, 11, 12, 13, 14, 15, 16, 17, 18, 19, 20, 21, 22, 23, 24, 25);
        for (int place = 0; place < 16; place++) {
            due(10 + place, "ofPicture(0, " + (10 + place) + ")");
        }
        due(OUTSIDE, "ofPicture(0, 9|26)");
    }

    @Says(promise = 3, words = "Of a PICTURE: 0 w, 1 h, 2 its SQUARES' sum, 3 ROOT, 10 and place: the SQUARE there.")
    void theLeastAndTheGreatestPicture() {
        int[] brightest = new int[16];
        Arrays.fill(brightest, 99);
        draw(1, 1, 0);
        draw(4, 4, brightest);
        due(1, "ofPicture(0, 0|1)");
        due(0, "ofPicture(0, 2)");
        due(root(1, 1, 0), "ofPicture(0, 3)");
        due(4, "ofPicture(1, 0|1)");
        due(1584, "ofPicture(1, 2)");
        due(root(4, 4, brightest), "ofPicture(1, 3)");
        due(99, "ofPicture(1, 10|25)");
    }

    @Says(promise = 3, words = {
        "of each place its SQUARE and one, or 0, where there is none", "==== 2 A TREE: 16 leaves",
        "two beside one another (0 and 1, 2 and 3 ..) make a number above: 31 times the left and 17 times the right and 5, the rest by 9973; these again, and again, to the ROOT.",
    })
    void aSquareOfZeroIsNotNone() {
        draw(1, 1, 0);
        draw(2, 1, 0, 0);
        // By hand: 1, 0 make 36, and 1, 1 make 53; beside them are 5, 245 and 1792 of no squares.
        due(2269, "ofPicture(0, 3)");
        due(93, "ofPicture(1, 3)");
        due(root(1, 1, 0), "ofPicture(0, 3)");
        due(root(2, 1, 0, 0), "ofPicture(1, 3)");
    }

    @Says(promise = 3, words = "OUTSIDE (a place where there is none, too).")
    void whatIsOutside() {
        refused(SOME, OUTSIDE, "ofPicture(0, -1|4|5|9|26|27|MIN|MAX)");
        refused(SOME, OUTSIDE, "ofPicture(0, -2147483639|-2147483638|-2147483637)");
        refused(SOME, OUTSIDE, "ofPicture(0, 13|17|18|25)");
        refused(SOME, OUTSIDE, "ofPicture(2, 11|14|25)");
    }

    @Says(promise = 3, words = "UNKNOWN; OUTSIDE (a place where there is none, too).")
    void noSuchPictureComesFirst() {
        refused(SOME, UNKNOWN, "ofPicture(-1|5|12|MIN|MAX, 0|3|10|4|-1|26)");
        refused(FULL_SCENE, UNKNOWN, "ofPicture(-1|12, 0|26)");
        due(UNKNOWN, "ofPicture(0, 0|4)");
    }

    @Says(promise = 4, words = "The SQUARE at a place becomes v: what it was (LINES stay).")
    void aSquareBecomesZeroAndNinetyNine() {
        draw(4, 4, 1, 2, 3, 4, 5, 6, 7, 8, 9, 10, 11, 12, 13, 14, 15, 16);
        given("lens(9)", "take(0, 0, 5)");
        long seal = x.line(0, 3);
        due(1, "alter(0, 0, 99)");
        due(99, "alter(0, 0, 0)");
        due(0, "alter(0, 0, 0)");
        due(16, "alter(0, 15, 99)");
        squares(0, 4, 4, 0, 2, 3, 4, 5, 6, 7, 8, 9, 10, 11, 12, 13, 14, 15, 99);
        due(seal, "line(0, 3)");
        due(1, "many(2)");
    }

    @Says(promise = 4, words = "UNKNOWN: PICTURE, place")
    void noSuchPictureOrPlace() {
        refused(SOME, UNKNOWN, "alter(-1|5|MIN|MAX, 0, 0)");
        refused(SOME, UNKNOWN, "alter(0, -1|16|MIN|MAX, 0)");
        refused(SOME, UNKNOWN, "alter(0, 3|7|8|15, 0)");
        refused(SOME, UNKNOWN, "alter(2, 1|4, 0)");
    }

    @Says(promise = 4, words = "OUTSIDE.")
    void aSquareOutside() {
        refused(SOME, OUTSIDE, "alter(0, 0|6, -1|100|MIN|MAX)");
    }

    @Says(promise = 4, words = "UNKNOWN: PICTURE, place; OUTSIDE.")
    void theOrderOfAlter() {
        inOrder(SOME, "alter(0, 0, 0)", because(UNKNOWN, "0:5", "0:-1", "1:3", "1:16"), because(OUTSIDE, "2:-1", "2:100"));
    }
}
