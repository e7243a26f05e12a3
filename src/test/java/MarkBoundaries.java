import java.util.Arrays;

/** Promises 21 to 29: marks, likeness, coarse hours, looks. */
final class MarkBoundaries extends Boundaries {
    private static final Scene SOME = Scene.SOME, FULL_SCENE = Scene.FULL;

    // ---- hide

    @Says(promise = 21, words = {"==== 3 A MARK (0 .. 255) hidden in a PICTURE", "OUTSIDE."})
    void aMarkIsZeroTo255() {
        refused(SOME, OUTSIDE, "hide(0, -1|256|MIN|MAX)");
        draw(4, 2, 1, 1, 1, 1, 1, 1, 1, 1);
        due(8, "hide(0, 0)");
        squares(0, 4, 2, 0, 0, 0, 0, 0, 0, 0, 0);
        due(8, "hide(0, 255)");
        squares(0, 4, 2, 1, 1, 1, 1, 1, 1, 1, 1);
    }

    @Says(promise = 21, words = "become even or odd (one less, if that is not so; 0 becomes 1) as bits 0, 1, .. of it tell (odd for 1).")
    void zeroBecomesOne() {
        draw(4, 2, 0, 0, 1, 1, 98, 98, 99, 99);
        due(4, "hide(0, 85)");
        squares(0, 4, 2, 1, 0, 1, 0, 97, 98, 99, 98);
        due(0, "hide(0, 85)");
        due(8, "hide(0, 170)");
        squares(0, 4, 2, 0, 1, 0, 1, 96, 97, 98, 97);
    }

    @Says(promise = 21, words = "its first SQUARES (8, or all, if there are fewer; row by row)")
    void theFirstEightSquares() {
        int[][] sides = {{1, 1}, {3, 1}, {1, 4}, {2, 3}, {4, 2}, {2, 4}, {3, 3}, {3, 4}, {4, 3}, {4, 4}};
        for (int[] side : sides) {
            x = new PicturePapers();
            int count = side[0] * side[1];
            int[] squares = new int[count];
            draw(side[0], side[1], squares);
            due(Math.min(count, 8), "hide(0, 255)");
            Arrays.fill(squares, 0, Math.min(count, 8), 1);
            squares(0, side[0], side[1], squares);
            due(0, "hide(0, 255)");
        }
    }

    @Says(promise = 21, words = "its first SQUARES (8, or all, if there are fewer; row by row)")
    void theNinthSquareIsLeftAsItIs() {
        draw(3, 3, 1, 1, 1, 1, 1, 1, 1, 1, 1);
        due(8, "hide(0, 0)");
        squares(0, 3, 3, 0, 0, 0, 0, 0, 0, 0, 0, 1);
        draw(3, 3, 0, 0, 0, 0, 0, 0, 0, 0, 0);
        due(8, "hide(1, 255)");
        squares(1, 3, 3, 1, 1, 1, 1, 1, 1, 1, 1, 0);
    }

    @Says(promise = 21, words = "its first SQUARES (8, or all, if there are fewer; row by row)")
    void eachBitHasItsSquare() {
        for (int bit = 0; bit < 8; bit++) {
            x = new PicturePapers();
            draw(3, 3, 0, 0, 0, 0, 0, 0, 0, 0, 0);
            due(1, "hide(0, " + (1 << bit) + ")");
            int[] squares = new int[9];
            squares[bit] = 1;
            squares(0, 3, 3, squares);
        }
        x = new PicturePapers();
        draw(1, 2, 0, 0);
        due(0, "hide(0, 252)");
        squares(0, 1, 2, 0, 0);
    }

    @Says(promise = 21, words = "A MARK is hidden in a PICTURE: how many SQUARES became another number.")
    void aMarkBreaksASealOnlyIfASquareChanges() {
        draw(2, 1, 4, 5);
        given("lens(7)", "take(0, 0, 0)");
        due(0, "hide(0, 2)");
        due(0, "speaks(0)");
        due(1, "hide(0, 0)");
        due(2, "speaks(0)");
    }

    @Says(promise = 21, words = "UNKNOWN; OUTSIDE.")
    void theOrderOfHide() {
        refused(SOME, UNKNOWN, "hide(-1|5|MIN|MAX, 0)");
        inOrder(SOME, "hide(0, 0)", because(UNKNOWN, "0:5", "0:-1"), because(OUTSIDE, "1:-1", "1:256"));
    }

    // ---- found, falsely

    @Says(promise = 22, words = "FOUND: how many of these SQUARES are as a MARK tells.")
    void noneToEightAreFound() {
        draw(4, 4, 0, 2, 4, 6, 8, 10, 12, 98, 1, 3, 5, 7, 9, 11, 13, 99);
        for (int found = 0; found <= 8; found++) {
            due(found, "found(0, " + (255 >> found) + ")");
        }
        draw(1, 1, 99);
        due(1, "found(1, 1|255)");
        due(0, "found(1, 0|254)");
    }

    @Says(promise = 22, words = "UNKNOWN; OUTSIDE.")
    void theOrderOfFound() {
        refused(SOME, UNKNOWN, "found(-1|5|MIN|MAX, 0)");
        refused(SOME, OUTSIDE, "found(0, -1|256|MIN|MAX)");
        inOrder(SOME, "found(0, 0)", because(UNKNOWN, "0:5", "0:-1"), because(OUTSIDE, "1:-1", "1:256"));
    }

    @Says(promise = 23, words = {
        "FALSE: of all ways of as many bits the share that has as many so, or more.",
        "Shares are told as upper and lower number (above 0) in least terms.",
        "upper number (which 0), lower (1).",
    })
    void theShareOfNoneAndOfAll() {
        for (int w = 1; w <= 4; w++) {
            for (int h = 1; h <= 4; h++) {
                x = new PicturePapers();
                draw(w, h, new int[w * h]);
                due(1, "falsely(0, 0, 0)");
                due(1L << Math.min(w * h, 8), "falsely(0, 0, 1)");
                due(1, "falsely(0, 255, 0|1)");
            }
        }
    }

    @Says(promise = 23, words = "Shares are told as upper and lower number (above 0) in least terms.")
    void aShareInLeastTerms() {
        draw(2, 2, 0, 0, 0, 0);
        // Of 16 ways 16, 15, 11, 5 and 1 have 0, 1, 2, 3, 4 so, or more.
        long[][] four = {{1, 1}, {15, 16}, {11, 16}, {5, 16}, {1, 16}};
        for (int found = 0; found <= 4; found++) {
            due(four[found][0], "falsely(0, " + (15 >> found) + ", 0)");
            due(four[found][1], "falsely(0, " + (15 >> found) + ", 1)");
        }
        draw(3, 1, 0, 0, 0);
        long[][] three = {{1, 1}, {7, 8}, {1, 2}, {1, 8}};
        for (int found = 0; found <= 3; found++) {
            due(three[found][0], "falsely(1, " + (7 >> found) + ", 0)");
            due(three[found][1], "falsely(1, " + (7 >> found) + ", 1)");
        }
        draw(3, 2, 0, 0, 0, 0, 0, 0);
        // Of 64 ways 64, 63, 57, 42, 22, 7 and 1.
        long[][] six = {{1, 1}, {63, 64}, {57, 64}, {21, 32}, {11, 32}, {7, 64}, {1, 64}};
        for (int found = 0; found <= 6; found++) {
            due(six[found][0], "falsely(2, " + (63 >> found) + ", 0)");
            due(six[found][1], "falsely(2, " + (63 >> found) + ", 1)");
        }
    }

    @Says(promise = 23, words = "LOST: UNKNOWN; OUTSIDE.")
    void aShareIsLost() {
        lost(SOME, 0, "falsely(-1|5|MIN|MAX, 0, 0|1)");
        lost(SOME, 0, "falsely(0, -1|256|MIN|MAX, 0|1)");
        lost(SOME, 0, "falsely(0, 0, -1|2|MIN|MAX)");
    }

    // ---- like, nearest

    @Says(promise = 24, words = "LIKENESS of two PICTURES: the sizes of the differences of their sums by how many SQUARES they have (cut), of their least, of their greatest SQUARES together.")
    void theLeastAndTheGreatestLikeness() {
        int[] bright = new int[16];
        Arrays.fill(bright, 99);
        draw(1, 1, 0);
        draw(4, 4, bright);
        draw(4, 4, new int[16]);
        due(0, "like(0, 0|2)");
        due(0, "like(1, 1)");
        due(297, "like(0|2, 1)");
        due(297, "like(1, 0|2)");
    }

    @Says(promise = 24, words = "of their least, of their greatest SQUARES together.")
    void theLeastAndTheGreatestAtEachPlace() {
        for (int place = 0; place < 16; place++) {
            x = new PicturePapers();
            int[] squares = new int[16];
            Arrays.fill(squares, 50);
            draw(4, 4, squares);
            squares[place] = 65;
            draw(4, 4, squares);
            squares[place] = 35;
            draw(4, 4, squares);
            due(15, "like(0, 1)");
            // Fifteen less of all is one less of each, as means are cut.
            due(16, "like(0, 2)");
            due(31, "like(1, 2)");
        }
    }

    @Says(promise = 24, words = "of their sums by how many SQUARES they have (cut)")
    void ofOneSquareAndOfSixteen() {
        int[] squares = new int[16];
        Arrays.fill(squares, 50);
        draw(1, 1, 50);
        draw(4, 4, squares);
        draw(2, 1, 50, 50);
        due(0, "like(0|1|2, 0|1|2)");
        given("alter(0, 0, 53)");
        due(9, "like(0, 1|2)");
    }

    @Says(promise = 24, words = {"of their sums by how many SQUARES they have (cut)", "Quotients are cut."})
    void eachMeanIsCutByItself() {
        draw(3, 1, 0, 1, 1);
        draw(3, 1, 0, 0, 1);
        draw(3, 1, 0, 2, 1);
        due(0, "like(0, 1)");
        due(2, "like(0, 2)");
        due(2, "like(2, 1)");
    }

    @Says(promise = 24, words = "UNKNOWN.")
    void noSuchPictureIsLike() {
        refused(SOME, UNKNOWN, "like(-1|5|MIN|MAX, 0)");
        refused(SOME, UNKNOWN, "like(0, -1|5|MIN|MAX)");
        refused(SOME, UNKNOWN, "like(5, 5)");
    }

    @Says(promise = 25, words = {"NONE: there are fewer.", "(0 on)"})
    void oneToElevenOthers() {
        row(0, 0, 5);
        for (int p = 0; p < 12; p++) {
            due(p, "picture(1, 1, 0, 0, 0)");
            for (int k = 0; k <= 10; k++) {
                due(k < p ? k : NONE, "nearest(" + p + ", " + k + ")");
            }
        }
        due(11, "nearest(0, 10)");
    }

    @Says(promise = 25, words = "NEAREST: other PICTURES by LIKENESS, of several by numbers.")
    void ofSeveralByNumbers() {
        int[] squares = {50, 52, 48, 50, 52, 49, 50};
        for (int square : squares) {
            draw(1, 1, square);
        }
        int[] near = {3, 6, 5, 1, 2, 4, NONE};
        for (int k = 0; k < near.length; k++) {
            due(near[k], "nearest(0, " + k + ")");
        }
        int[] nearLast = {0, 3, 5, 1, 2, 4, NONE};
        for (int k = 0; k < nearLast.length; k++) {
            due(nearLast[k], "nearest(6, " + k + ")");
        }
    }

    @Says(promise = 25, words = "UNKNOWN: PICTURE, k is not 0 .. 10.")
    void noSuchNearest() {
        refused(SOME, UNKNOWN, "nearest(-1|5|MIN|MAX, 0)");
        refused(SOME, UNKNOWN, "nearest(0, -1|11|MIN|MAX)");
        refused(FULL_SCENE, UNKNOWN, "nearest(12, 0|10)");
        begin(SOME);
        due(NONE, "nearest(0, 4|10)");
    }

    // ---- coarse

    @Says(promise = 26, words = {"COARSE by c (1 .. 24): an HOUR by c, times c.", "The HOUR of a LINE, COARSE by c."})
    void coarseByOneToTwentyFour() {
        for (int hour : new int[] {0, 1, 23, 24, 25, 998, 999}) {
            x = new PicturePapers();
            draw(1, 1, 5);
            given("lens(7)", "take(0, 0, " + hour + ")");
            for (int c = 1; c <= 24; c++) {
                due(hour - hour % c, "coarse(0, " + c + ")");
            }
            due(hour, "line(0, 2)");
        }
    }

    @Says(promise = 26, words = "UNKNOWN; OUTSIDE; STATE: there is none.")
    void theOrderOfCoarse() {
        refused(SOME, UNKNOWN, "coarse(-1|5|MIN|MAX, 1)");
        refused(SOME, OUTSIDE, "coarse(0|1|3, -1|0|25|MIN|MAX)");
        refused(SOME, STATE, "coarse(2|4, 1|24)");
        inOrder(SOME, "coarse(0, 1)", because(UNKNOWN, "0:5", "0:-1"), because(OUTSIDE, "1:0", "1:25"),
                because(STATE, "0:2", "0:4"));
    }

    // ---- looks

    @Says(promise = 27, words = {"LOOKS, 9 ever, numbered as they come", "FULL."})
    void thereAreNineLooksEver() {
        draw(1, 1, 5);
        for (int look = 0; look < 9; look++) {
            due(look, "look(0, 1, 0)");
            due(look + 1, "many(3)");
        }
        due(FULL, "look(0, 1, 0)");
        refused(FULL_SCENE, FULL, "look(0|11, 1|9, 0|99)");
    }

    @Says(promise = 27, words = {"at a PICTURE, hours (1 .. 9), a worth (0 .. 99).", "OUTSIDE"})
    void hoursAndWorthOfALook() {
        draw(1, 1, 5);
        due(0, "look(0, 1, 0)");
        due(1, "look(0, 9, 99)");
        due(OUTSIDE, "look(0, 0|10, 0)");
        due(OUTSIDE, "look(0, 1, -1|100)");
        due(2, "look(0, 9, 0)");
        refused(SOME, OUTSIDE, "look(0, -1|0|10|MIN|MAX, 0)");
        refused(SOME, OUTSIDE, "look(0, 1, -1|100|MIN|MAX)");
    }

    @Says(promise = 27, words = "UNKNOWN: PICTURE; OUTSIDE; FULL.")
    void theOrderOfLook() {
        refused(SOME, UNKNOWN, "look(-1|5|MIN|MAX, 1, 0)");
        inOrder(FULL_SCENE, "look(0, 1, 0)", because(UNKNOWN, "0:12", "0:-1"),
                because(OUTSIDE, "1:0", "1:10", "2:-1", "2:100"), because(FULL, ""));
    }

    @Says(promise = 28, words = "BEST of so many hours (0 .. 99): the set (what 0), worth together (1), hours (2).")
    void hoursFromNoneToNinetyNine() {
        draw(1, 1, 5);
        due(0, "best(0|99, 0|1|2)");
        for (int k = 0; k < 9; k++) {
            given("look(0, 9, 99)");
        }
        due(0, "best(0|8, 0|1|2)");
        due(1, "best(9|17, 0)");
        due(99, "best(9|17, 1)");
        due(9, "best(9|17, 2)");
        due(255, "best(72|80, 0)");
        due(511, "best(81|82|99, 0)");
        due(891, "best(81|99, 1)");
        due(81, "best(81|99, 2)");
    }

    @Says(promise = 28, words = "BEST of so many hours: the set of LOOKS of the most worth together in these")
    void theMostWorthInTheseHours() {
        draw(1, 1, 5);
        given("look(0, 5, 50)", "look(0, 3, 29)", "look(0, 2, 20)", "look(0, 1, 1)");
        int[][] best = {{0, 0}, {1, 8}, {2, 4}, {3, 2}, {4, 10}, {5, 1}, {6, 9}, {7, 5}, {8, 3}, {9, 11}, {10, 7}, {11, 15}};
        int[] worth = {0, 1, 20, 29, 30, 50, 51, 70, 79, 80, 99, 100};
        for (int k = 0; k < best.length; k++) {
            due(best[k][1], "best(" + best[k][0] + ", 0)");
            due(worth[k], "best(" + best[k][0] + ", 1)");
        }
    }

    @Says(promise = 28, words = "of several that of the least hours, then the least as a number (bit k for LOOK k).")
    void ofSeveralTheLeast() {
        draw(1, 1, 5);
        given("look(0, 4, 20)", "look(0, 1, 10)", "look(0, 1, 10)", "look(0, 1, 10)", "look(0, 1, 0)", "look(0, 2, 20)");
        due(2, "best(1, 0)");
        due(6, "best(2, 0)");
        due(2, "best(2, 2)");
        due(14, "best(3, 0)");
        due(38, "best(4, 0)");
        due(46, "best(5|6|7, 0)");
        due(5, "best(7, 2)");
        due(39, "best(8, 0)");
        due(47, "best(9|99, 0)");
        due(9, "best(99, 2)");
        x = new PicturePapers();
        draw(1, 1, 5);
        given("look(0, 4, 20)", "look(0, 2, 20)", "look(0, 2, 20)");
        due(2, "best(2|3, 0)");
        due(6, "best(4|5, 0)");
        due(4, "best(4|5, 2)");
    }

    @Says(promise = 28, words = "of several that of the least hours, then the least as a number (bit k for LOOK k).")
    void looksOfNoWorthAreLeftOut() {
        draw(1, 1, 5);
        given("look(0, 1, 0)", "look(0, 9, 0)");
        due(0, "best(0|1|9|99, 0|1|2)");
        given("look(0, 1, 1)");
        due(0, "best(0, 0|1|2)");
        due(4, "best(1|99, 0)");
    }

    @Says(promise = 28, words = "OUTSIDE.")
    void noSuchBest() {
        refused(SOME, OUTSIDE, "best(-1|100|MIN|MAX, 0)");
        refused(SOME, OUTSIDE, "best(0|99, -1|3|MIN|MAX)");
    }

    @Says(promise = 29, words = "LOOKS at PICTURES that have a DOUBT, as a set.")
    void noneToNineAreDoubtful() {
        due(0, "doubtful()");
        draw(1, 1, 5);
        due(0, "doubtful()");
        for (int k = 0; k < 9; k++) {
            given("look(0, 1, 1)");
            due((2 << k) - 1, "doubtful()");
        }
        given("lens(7)", "take(0, 0, 0)");
        due(0, "doubtful()");
        given("alter(0, 0, 6)");
        due(511, "doubtful()");
    }
}
