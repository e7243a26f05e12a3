import java.util.Arrays;

/** Promise 10, and the texts that it shares with promise 9: acts read, acts done. */
final class ActBoundaries extends Boundaries {
    private static final Scene SOME = Scene.SOME, FULL_SCENE = Scene.FULL;
    private static final int WHOLE = -1;
    private static final int[] SIXTEEN = {10, 11, 12, 13, 14, 15, 16, 17, 18, 19, 20, 21, 22, 23, 24, 25};

    /** Both calls that read a text refuse it, whatever the lane. */
    private void faulty(int place, String text) {
        faulty(SOME, place, text.chars().toArray(), 0, 1, 2);
    }

    private void faulty(Scene scene, int place, int[] codes, int... lanes) {
        for (int lane : lanes) {
            String cells = "3, " + lane + ", 0, " + codes.length + ")";
            Scene written = scene.row(3, lane, codes);
            refused(written, FIRST_FAULT - place, "act(0, " + cells);
            refused(written, FIRST_FAULT - place, "change(2, 0, 0, 0, " + cells);
        }
    }

    /** Both calls take it, whatever the lane; it need not be done. */
    private void right(int items, String text) {
        for (int lane = 0; lane < 3; lane++) {
            begin(SOME.text(3, lane, text));
            String cells = "3, " + lane + ", 0, " + text.length() + ")";
            given("change(2, 0, 0, 0, " + cells);
            due(items, "line(2, 5)");
            check.holds(Call.one("act(0, " + cells).on(x) > FIRST_FAULT, "act by " + text + " has no first fault");
        }
    }

    @Says(promise = 10, words = "ACTS by a TEXT: 1 to 5 items with ; between")
    void aTextHasOneToFiveItems() {
        faulty(0, "");
        right(1, "t");
        right(2, "t;t");
        right(5, "t;t;t;t;t");
        right(5, "c0011;b0011;l99;m99;q9");
        faulty(9, "t;t;t;t;t;");
        faulty(9, "t;t;t;t;t;t");
        faulty(14, "l1;m1;q2;l1;q3;x");
        faulty(29, "c0011;c0011;c0011;c0011;c0011;t");
    }

    @Says(promise = 10, words = "ACTS by a TEXT: 1 to 5 items with ; between")
    void oneSemicolonStandsBetween() {
        faulty(0, ";");
        faulty(0, ";t");
        faulty(2, "t;");
        faulty(2, "t;;t");
        faulty(1, "tt");
        faulty(1, "t,t");
        faulty(1, "t:t");
        faulty(1, "t<t");
        faulty(1, "t t");
    }

    @Says(promise = 10, words = "c and four digits (cut: x, y, w, h)")
    void aCutHasFourDigits() {
        fourDigits('c');
    }

    @Says(promise = 10, words = "b and four digits (blurred there)")
    void aBlurHasFourDigits() {
        fourDigits('b');
    }

    private void fourDigits(char kind) {
        faulty(1, kind + "");
        faulty(2, kind + "0");
        faulty(3, kind + "00");
        faulty(4, kind + "001");
        right(1, kind + "0000");
        right(1, kind + "9999");
        faulty(5, kind + "00110");
        faulty(4, kind + "001;t");
        for (int place = 1; place <= 4; place++) {
            StringBuilder text = new StringBuilder(kind + "0099");
            text.setCharAt(place, '/');
            faulty(place, text.toString());
            text.setCharAt(place, ':');
            faulty(place, text.toString());
        }
    }

    @Says(promise = 10, words = "t (turned)")
    void aTurnHasNoDigit() {
        right(1, "t");
        faulty(1, "t0");
        faulty(1, "t1;t");
    }

    @Says(promise = 10, words = {
        "l and a number, m and a number (lighter, darker by 1 .. 99; one or two digits)",
        "of a number that is not as told its first digit",
    })
    void aNumberIsOneToNinetyNine() {
        for (String kind : new String[] {"l", "m"}) {
            faulty(1, kind + "0");
            faulty(1, kind + "00");
            faulty(1, kind + "0;t");
            faulty(1, kind + "00;t");
            faulty(3, "t;" + kind + "0");
            faulty(3, "t;" + kind + "00");
            right(1, kind + "1");
            right(1, kind + "01");
            right(1, kind + "9");
            right(1, kind + "10");
            right(1, kind + "99");
        }
    }

    @Says(promise = 10, words = "l and a number, m and a number (lighter, darker by 1 .. 99; one or two digits)")
    void aNumberHasOneOrTwoDigits() {
        for (String kind : new String[] {"l", "m"}) {
            faulty(1, kind);
            faulty(1, kind + ";");
            faulty(1, kind + "/");
            faulty(1, kind + ":");
            faulty(2, kind + "1/");
            faulty(2, kind + "1:");
            faulty(3, kind + "100");
            faulty(3, kind + "011");
            faulty(3, kind + "123;t");
        }
    }

    @Says(promise = 10, words = "q and a digit 2 .. 9 (saved worse)")
    void aStepIsTwoToNine() {
        faulty(1, "q");
        faulty(1, "q;");
        faulty(1, "q/");
        faulty(1, "q0");
        faulty(1, "q1");
        for (int step = 2; step <= 9; step++) {
            right(1, "q" + step);
        }
        faulty(1, "q:");
        faulty(2, "q20");
        faulty(2, "q99");
    }

    @Says(promise = 10, words = "how many codes there are, if it just ends too soon")
    void aTextEndsTooSoon() {
        String text = "c0011;b0011;l7;t;q3";
        String ends = "5 11 14 16 19";
        for (int n = 0; n <= text.length(); n++) {
            if (Arrays.asList(ends.split(" ")).contains("" + n)) {
                right(text.substring(0, n).split(";").length, text.substring(0, n));
            } else {
                faulty(n, text.substring(0, n));
            }
        }
    }

    @Says(promise = 10, words = "FIRST FAULT: the place (from 0 on) of the first code with which no TEXT goes on")
    void theFirstOfSeveralFaults() {
        faulty(0, "xt;q1");
        faulty(3, "t;qx;q1");
        faulty(5, "c0011x;q1");
        faulty(2, "t;T");
        faulty(2, "t;a");
        faulty(28, "c0011;c0011;c0011;c0011;c001x");
    }

    @Says(promise = 10, words = "FIRST FAULT: the place (from 0 on) of the first code with which no TEXT goes on")
    void aTextMayStandAnywhereInARow() {
        int[] codes = new int[60];
        String text = "c0011;c0011;c0011;c0011;c0011";
        for (int k = 0; k < text.length(); k++) {
            codes[31 + k] = text.charAt(k);
        }
        begin(SOME.row(3, 1, codes));
        due(5, "act(0, 3, 1, 31, 29)");
        due(INDEX, "act(0, 3, 1, 31|32, 30)");
        due(FIRST_FAULT, "act(0, 3, 1, 30, 30)");
        due(FIRST_FAULT, "act(0, 3, 1, 0, 60)");
        due(FIRST_FAULT - 28, "act(0, 3, 1, 31, 28)");
        due(FIRST_FAULT - 1, "act(0, 3, 1, 55, 1)");
    }

    @Says(promise = 10, words = "(Codes: c 99, b 98, t 116, l 108, m 109, q 113, ; 59, digits 48 .. 57.)")
    void eachCodeInEachPlace() {
        for (int code = -128; code <= 127; code++) {
            boolean isDigit = code >= 48 && code <= 57;
            boolean asksForMore = code == 99 || code == 98 || code == 108 || code == 109 || code == 113;
            readsTo(code == 116 ? WHOLE : asksForMore ? 1 : 0, code);
            readsTo(code == 59 ? 2 : 1, 't', code);
            readsTo(isDigit ? 2 : 1, 'c', code);
            readsTo(isDigit ? 2 : 1, 'b', code);
            readsTo(isDigit && code > 48 ? WHOLE : 1, 'l', code);
            readsTo(isDigit && code > 48 ? WHOLE : 1, 'm', code);
            readsTo(isDigit && code > 49 ? WHOLE : 1, 'q', code);
            readsTo(isDigit ? WHOLE : code == 59 ? 3 : 2, 'l', '1', code);
        }
    }

    private void readsTo(int place, int... codes) {
        begin(SOME.row(3, 0, codes));
        String change = "change(2, 0, 0, 0, 3, 0, 0, " + codes.length + ")";
        if (place == WHOLE) {
            given(change);
        } else {
            due(FIRST_FAULT - place, change);
        }
    }

    @Says(promise = 10, words = "(Codes: c 99, b 98, t 116, l 108, m 109, q 113, ; 59, digits 48 .. 57.)")
    void codesAreNotCut() {
        for (int code : new int[] {99, 98, 116, 108, 109, 113}) {
            faulty(SOME, 0, new int[] {code + 256, 50, 50, 50, 50}, 1, 2);
            faulty(SOME, 0, new int[] {code - 256, 50, 50, 50, 50}, 1, 2);
            faulty(SOME, 0, new int[] {code + 65536, 50, 50, 50, 50}, 2);
            faulty(SOME, 0, new int[] {code + Integer.MIN_VALUE, 50, 50, 50, 50}, 2);
        }
        faulty(SOME, 1, new int[] {116, 59 + 256, 116}, 1, 2);
        faulty(SOME, 1, new int[] {116, 59 + 65536, 116}, 2);
        faulty(SOME, 2, new int[] {108, 49, 49 + 256}, 1, 2);
        faulty(SOME, 1, new int[] {113, 50 + 65536}, 2);
        faulty(SOME, 1, new int[] {108, Integer.MAX_VALUE}, 2);
        faulty(SOME, 4, new int[] {99, 48, 48, 49, Integer.MIN_VALUE}, 2);
    }

    // ---- what is done

    /** New pictures of a picture, each in an object of its own. */
    private boolean canDo(int w, int h, String text) {
        x = new PicturePapers();
        draw(w, h, Arrays.copyOf(SIXTEEN, w * h));
        long made = act(0, text);
        check.holds(made == 1 || made == STATE, text + " is done or refused: " + made);
        return made == 1;
    }

    @Says(promise = 10, words = {
        "DONE on a PICTURE one after another: c: it is the w by h SQUARES from x, y on, if they are all there and w, h are 1 or more (else it CANNOT be done)",
        "STATE: it CANNOT be done",
    })
    void aCutOfSquaresThatAreThere() {
        for (int k = 0; k < 10000; k++) {
            areaOf('c', k);
        }
        int[] sides = {1, 2, 4};
        for (int w : sides) {
            for (int h : sides) {
                check.holds(canDo(w, h, "c00" + w + h), "all of it is cut");
                squares(1, w, h, Arrays.copyOf(SIXTEEN, w * h));
                check.holds(canDo(w, h, "c" + (w - 1) + (h - 1) + "11"), "the last square is cut");
                squares(1, 1, 1, SIXTEEN[w * h - 1]);
                check.holds(!canDo(w, h, "c00" + (w + 1) + h), "wider");
                check.holds(!canDo(w, h, "c00" + w + (h + 1)), "higher");
                check.holds(!canDo(w, h, "c" + w + "011"), "to the right");
                check.holds(!canDo(w, h, "c0" + h + "11"), "below");
            }
        }
    }

    @Says(promise = 10, words = "b: these SQUARES (if they are all there, w, h 1 or more; else it CANNOT, too)")
    void aBlurOfSquaresThatAreThere() {
        for (int k = 0; k < 10000; k++) {
            areaOf('b', k);
        }
    }

    /** On 3 by 2 squares, for each four digits. */
    private void areaOf(char kind, int digits) {
        int x0 = digits / 1000;
        int y0 = digits / 100 % 10;
        int w = digits / 10 % 10;
        int h = digits % 10;
        boolean is = w >= 1 && h >= 1 && x0 + w <= 3 && y0 + h <= 2;
        String text = "" + kind + x0 + y0 + w + h;
        PicturePapers one = new PicturePapers();
        one.sheet(0, 0, 6);
        for (int k = 0; k < 6; k++) {
            one.put(0, k, SIXTEEN[k]);
        }
        one.picture(3, 2, 0, 0, 0);
        one.sheet(1, 0, 5);
        for (int k = 0; k < 5; k++) {
            one.put(1, k, text.charAt(k));
        }
        check.due(one.act(0, 1, 0, 0, 5), is ? 1 : STATE, "act by " + text);
        if (is) {
            check.due(one.ofPicture(1, 0), kind == 'c' ? w : 3, "w behind " + text);
            check.due(one.ofPicture(1, 1), kind == 'c' ? h : 2, "h behind " + text);
            int first = SIXTEEN[x0 + 3 * y0];
            int last = SIXTEEN[x0 + w - 1 + 3 * (y0 + h - 1)];
            // The squares are evenly apart: their mean is that of the first and the last.
            int mean = (first + last) / 2;
            int at = kind == 'c' ? 10 : 10 + x0 + 4 * y0;
            check.due(one.ofPicture(1, at), kind == 'c' ? first : mean, "the first square behind " + text);
            at += w - 1 + 4 * (h - 1);
            check.due(one.ofPicture(1, at), kind == 'c' ? last : mean, "the last square behind " + text);
        }
    }

    @Says(promise = 10, words = "all become their sum by how many they are (cut)")
    void aBlurIsCut() {
        draw(2, 2, 0, 1, 0, 0);
        due(1, "act(0, 1, 0, 0, " + write("b0022") + ")");
        squares(1, 2, 2, 0, 0, 0, 0);
        due(2, "act(0, 1, 0, 0, " + write("b1011") + ")");
        squares(2, 2, 2, 0, 1, 0, 0);
        draw(4, 4, 99, 99, 99, 99, 99, 99, 99, 99, 99, 99, 99, 99, 99, 99, 99, 98);
        due(4, "act(3, 1, 0, 0, " + write("b0044") + ")");
        due(98, "ofPicture(4, 10|25)");
        due(5, "act(3, 1, 0, 0, " + write("b0043") + ")");
        due(99, "ofPicture(5, 10|21|22|24)");
        due(98, "ofPicture(5, 25)");
    }

    private int write(String text) {
        text(1, 0, text);
        return text.length();
    }

    @Says(promise = 10, words = "t: h by w SQUARES, that at x, y comes from y, h less 1 less x of what was (h the one ahead of it)")
    void theLeastAndTheLongestAreTurned() {
        check.holds(canDo(1, 1, "t"), "one square");
        squares(1, 1, 1, 10);
        check.holds(canDo(4, 1, "t"), "a row");
        squares(1, 1, 4, 10, 11, 12, 13);
        check.holds(canDo(1, 4, "t"), "a column");
        squares(1, 4, 1, 13, 12, 11, 10);
        check.holds(canDo(4, 4, "t"), "all");
        squares(1, 4, 4, 22, 18, 14, 10, 23, 19, 15, 11, 24, 20, 16, 12, 25, 21, 17, 13);
        check.holds(canDo(3, 2, "t;t;t;t"), "once around");
        squares(1, 3, 2, 10, 11, 12, 13, 14, 15);
    }

    @Says(promise = 10, words = "l, m: each is so much more, less, 99 at most, 0 at least")
    void lighterAndDarkerStopAtTheEnds() {
        draw(4, 1, 0, 1, 98, 99);
        due(1, "act(0, 1, 0, 0, " + write("l1") + ")");
        squares(1, 4, 1, 1, 2, 99, 99);
        due(2, "act(0, 1, 0, 0, " + write("l99") + ")");
        squares(2, 4, 1, 99, 99, 99, 99);
        due(3, "act(0, 1, 0, 0, " + write("m1") + ")");
        squares(3, 4, 1, 0, 0, 97, 98);
        due(4, "act(0, 1, 0, 0, " + write("m99") + ")");
        squares(4, 4, 1, 0, 0, 0, 0);
        due(5, "act(0, 1, 0, 0, " + write("l2;m2") + ")");
        squares(5, 4, 1, 0, 1, 97, 97);
        due(6, "act(0, 1, 0, 0, " + write("m2;l2") + ")");
        squares(6, 4, 1, 2, 2, 98, 99);
    }

    @Says(promise = 10, words = "q: each by it, times it")
    void worseIsCut() {
        draw(4, 2, 99, 0, 1, 2, 8, 9, 10, 98);
        due(1, "act(0, 1, 0, 0, " + write("q2") + ")");
        squares(1, 4, 2, 98, 0, 0, 2, 8, 8, 10, 98);
        due(2, "act(0, 1, 0, 0, " + write("q9") + ")");
        squares(2, 4, 2, 99, 0, 0, 0, 0, 9, 9, 90);
    }

    @Says(promise = 10, words = "DONE on a PICTURE one after another")
    void whatIsThereIsWhatWasLeft() {
        check.holds(canDo(3, 2, "c0011;b0011"), "the one square left");
        check.holds(!canDo(3, 2, "c0011;c1011"), "a square cut off");
        check.holds(canDo(3, 2, "t;c0023"), "turned, then all of it");
        check.holds(!canDo(3, 2, "t;c0032"), "turned, then as it was");
        check.holds(!canDo(3, 2, "t;t;t;t;c0000"), "the last of five");
        check.holds(canDo(3, 2, "t;t;t;t;c2111"), "the last of five");
    }

    @Says(promise = 10, words = "DONE on a PICTURE one after another")
    void nothingOfALongerTextIsDoneAgain() {
        draw(2, 1, 10, 20);
        due(1, "act(0, 1, 0, 0, " + write("l1;l2;l4;l8;l16") + ")");
        squares(1, 2, 1, 41, 51);
        due(2, "act(0, 1, 0, 0, " + write("m1") + ")");
        squares(2, 2, 1, 9, 19);
        due(FIRST_FAULT - 6, "act(0, 1, 0, 0, " + write("l3;l3;x") + ")");
        due(3, "act(0, 1, 0, 0, " + write("l1;l2") + ")");
        squares(3, 2, 1, 13, 23);
    }

    @Says(promise = 10, words = "STATE: it CANNOT be done")
    void whatCannotBeDoneChangesNothing() {
        for (String text : new String[] {"c0000", "c0001", "c0010", "c0042", "b0033", "l5;c3011", "l5;t;b0032"}) {
            Scene scene = SOME.text(3, 0, text);
            refused(scene, STATE, "act(0, 3, 0, 0, " + text.length() + ")");
        }
    }

    @Says(promise = 10, words = "(without a LINE)")
    void aNewPictureHasNoLine() {
        begin(SOME.text(3, 0, "t"));
        due(5, "act(0, 3, 0, 0, 1)");
        due(STATE, "line(5, 0)");
        due(3, "many(2)");
        due(1, "way(5, -1)");
    }

    @Says(promise = 10, words = "FULL.")
    void twelvePicturesByActs() {
        draw(1, 1, 5);
        text(1, 0, "t");
        for (int p = 1; p < 12; p++) {
            due(p, "act(" + (p - 1) + ", 1, 0, 0, 1)");
        }
        due(FULL, "act(0|11, 1, 0, 0, 1)");
        refused(FULL_SCENE, FULL, "act(0|11, 1, 1, 0, 1|4)");
    }

    @Says(promise = 10, words = "UNKNOWN: PICTURE, SHEET")
    void anActOnNoPictureByNoSheet() {
        refused(SOME, UNKNOWN, "act(-1|5|12|MIN|MAX, 1, 1, 0, 1)");
        refused(SOME, UNKNOWN, "act(0, -1|4|MIN|MAX, 1, 0, 1)");
    }

    @Says(promise = 10, words = "OUTSIDE: lane")
    void anActByNoLane() {
        refused(SOME, OUTSIDE, "act(0, 1, -1|3|MIN|MAX, 0, 1)");
    }

    @Says(promise = 10, words = "CAST")
    void anActByAnotherLane() {
        refused(SOME, CAST, "act(0, 0, 1|2, 0, 1)");
        refused(SOME, CAST, "act(0, 1, 0|2, 0, 1)");
        refused(SOME, CAST, "act(0, 2, 0|1, 4, 1)");
    }

    @Says(promise = 10, words = "NULL")
    void anActByNothing() {
        refused(SOME, NULL, "act(0, 3, 0|1|2, 0, 0|1)");
    }

    @Says(promise = 10, words = {"SIZE", "4 SIZE (a length below 0)"})
    void anActByFewerThanNoCells() {
        refused(SOME, SIZE, "act(0, 1, 1, 0, -1|MIN)");
        refused(SOME, FIRST_FAULT, "act(0, 1, 1, 0, 0)");
    }

    @Says(promise = 10, words = "INDEX")
    void anActBeyondTheRow() {
        refused(SOME, INDEX, "act(0, 1, 1, -1|7|8|MIN|MAX, 1)");
        refused(SOME, INDEX, "act(0, 1, 1, 0, 8|61|MAX)");
        refused(SOME, INDEX, "act(0, 1, 1, 1, 7|MAX)");
        refused(SOME, INDEX, "act(0, 1, 1, MAX, MAX)");
        begin(SOME);
        due(FIRST_FAULT - 6, "act(0, 1, 1, 0, 7)");
        due(FIRST_FAULT, "act(0, 1, 1, 6, 1)");
    }

    @Says(promise = 10, words = "3 INDEX (of cells from i on also where i is not 0 .. how many there are, if none of them is taken, too)")
    void anActByNoCells() {
        refused(SOME, INDEX, "act(0, 1, 1, -1|8|MIN|MAX, 0)");
        refused(SOME, FIRST_FAULT, "act(0, 1, 1, 0|1|7, 0)");
        Scene noCells = SOME.then("sheet(3, 0, 0)");
        refused(noCells, INDEX, "act(0, 3, 0, -1|1, 0)");
        refused(noCells, FIRST_FAULT, "act(0, 3, 0, 0, 0)");
    }

    @Says(promise = 10, words = "UNKNOWN: PICTURE, SHEET; OUTSIDE: lane; CAST; NULL; SIZE; INDEX; -100 less the FIRST FAULT; STATE: it CANNOT be done; FULL.")
    void theOrderOfAct() {
        Cause[] causes = {
            because(UNKNOWN, "0:12", "0:-1", "1:4", "1:-1"), because(OUTSIDE, "2:3", "2:-1"),
            because(NULL, "1:3"), because(CAST, "2:0", "2:2"), because(SIZE, "4:-1"),
            because(INDEX, "3:-1", "3:12", "4:12", "3:0,4:12"), because(FIRST_FAULT - 5, "3:0,4:11"),
            because(STATE, "3:0,4:5"), because(FULL, ""),
        };
        String text = "c0000x;t;t;";
        inOrder(FULL_SCENE.text(1, 1, text), "act(0, 1, 1, 7, 3)", causes);
        inOrder(SOME.text(1, 1, text), "act(0, 1, 1, 7, 3)", Arrays.copyOf(causes, causes.length - 1));
    }
}
