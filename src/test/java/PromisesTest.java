/** For each promise of the document: ordinary inputs, its edges, wrong inputs in the order told. */
public final class PromisesTest {
    private static final int UNKNOWN = -1, OUTSIDE = -2, STATE = -3, FULL = -4, NONE = -9;
    private static final int NULL = -11, CAST = -12, INDEX = -13, SIZE = -14;
    private static final int MIN = Integer.MIN_VALUE, MAX = Integer.MAX_VALUE;
    private static final int TEXT_SHEET = 3;

    private final Check check = new Check();
    private PicturePapers x;

    public static void main(String[] args) {
        PromisesTest test = new PromisesTest();
        test.constants();
        test.pictures();
        test.texts();
        test.acts();
        test.lines();
        test.ways();
        test.proofs();
        test.marks();
        test.looks();
        test.sheets();
        test.parts();
        test.check.finish();
    }

    private void begin(String about) {
        check.about(about);
        x = new PicturePapers();
    }

    private void due(long want, String call, long got) {
        check.due(got, want, call);
    }

    private void fill(int sheet, int lane, int... values) {
        due(1, "sheet", x.sheet(sheet, lane, values.length));
        for (int i = 0; i < values.length; i++) {
            due(1, "put", x.put(sheet, i, values[i]));
        }
    }

    private int draw(int w, int h, int... squares) {
        fill(0, 0, squares);
        return x.picture(w, h, 0, 0, 0);
    }

    private int write(String text) {
        x.sheet(TEXT_SHEET, 0, text.length());
        for (int i = 0; i < text.length(); i++) {
            x.put(TEXT_SHEET, i, text.charAt(i));
        }
        return text.length();
    }

    private int act(int from, String text) {
        int n = write(text);
        return x.act(from, TEXT_SHEET, 0, 0, n);
    }

    private int change(int p, int from, int lens, int hour, String text) {
        int n = write(text);
        return x.change(p, from, lens, hour, TEXT_SHEET, 0, 0, n);
    }

    private void squares(int p, int w, int h, int... squares) {
        due(w, "w", x.ofPicture(p, 0));
        due(h, "h", x.ofPicture(p, 1));
        for (int place = 0; place < 16; place++) {
            boolean is = place % 4 < w && place / 4 < h;
            int want = is ? squares[place % 4 + w * (place / 4)] : OUTSIDE;
            due(want, "square " + place, x.ofPicture(p, 10 + place));
        }
    }

    private void constants() {
        begin("the constants");
        due(-1, "UNKNOWN", PicturePapers.UNKNOWN);
        due(-2, "OUTSIDE", PicturePapers.OUTSIDE);
        due(-3, "STATE", PicturePapers.STATE);
        due(-4, "FULL", PicturePapers.FULL);
        due(-9, "NONE", PicturePapers.NONE);
        due(Long.MIN_VALUE, "LOST", PicturePapers.LOST);
    }

    private void pictures() {
        begin("1 a new object");
        for (int what = 0; what < 4; what++) {
            due(0, "many", x.many(what));
        }
        for (int k = 0; k < 4; k++) {
            due(0, "lose", x.lose(k));
        }
        due(0, "trace()", x.trace());
        due(0, "fault()", x.fault());
        due(0, "within(0)", x.within(0));
        due(0, "doubtful()", x.doubtful());
        due(UNKNOWN, "ofPicture(0, 0)", x.ofPicture(0, 0));

        begin("2 picture");
        fill(1, 1, 7, 0, 99, 100, -1, 5);
        due(0, "a row", x.picture(3, 1, 1, 1, 0));
        squares(0, 3, 1, 7, 0, 99);
        due(1, "the last cell", x.picture(1, 1, 1, 1, 5));
        due(UNKNOWN, "sheet ahead of all", x.picture(0, 0, 4, 9, 0));
        due(UNKNOWN, "sheet -1", x.picture(1, 1, -1, 0, 0));
        due(OUTSIDE, "w 0", x.picture(0, 1, 1, 1, 0));
        due(OUTSIDE, "w 5", x.picture(5, 1, 1, 1, 0));
        due(OUTSIDE, "h 0", x.picture(1, 0, 1, 1, 0));
        due(OUTSIDE, "h 5", x.picture(1, 5, 1, 1, 0));
        due(OUTSIDE, "lane 3", x.picture(1, 1, 1, 3, 0));
        due(OUTSIDE, "lane -1", x.picture(1, 1, 1, -1, 0));
        due(CAST, "cast ahead of index", x.picture(4, 4, 1, 0, -1));
        due(2, "fault()", x.fault());
        due(NULL, "null, whatever the lane", x.picture(1, 1, 2, 1, 99));
        due(1, "fault()", x.fault());
        due(INDEX, "index", x.picture(3, 1, 1, 1, 4));
        due(3, "fault()", x.fault());
        due(INDEX, "index ahead of squares", x.picture(1, 4, 1, 1, 3));
        due(INDEX, "i below 0", x.picture(1, 1, 1, 1, -1));
        due(INDEX, "i far on", x.picture(1, 2, 1, 1, MAX));
        due(INDEX, "i far below", x.picture(1, 2, 1, 1, MIN));
        due(OUTSIDE, "a square of 100", x.picture(1, 1, 1, 1, 3));
        due(0, "fault()", x.fault());
        due(OUTSIDE, "a square of -1", x.picture(1, 1, 1, 1, 4));
        due(OUTSIDE, "the last square", x.picture(2, 2, 1, 1, 0));
        for (int p = 2; p < 12; p++) {
            due(p, "number", x.picture(1, 1, 1, 1, 0));
        }
        due(OUTSIDE, "a square ahead of full", x.picture(1, 1, 1, 1, 3));
        due(FULL, "a thirteenth", x.picture(1, 1, 1, 1, 0));
        due(12, "many(0)", x.many(0));

        begin("3 ofPicture");
        due(0, "picture", draw(2, 1, 5, 9));
        due(14, "sum", x.ofPicture(0, 2));
        due(561, "root", x.ofPicture(0, 3));
        due(UNKNOWN, "picture ahead of what", x.ofPicture(1, 99));
        due(UNKNOWN, "picture -1", x.ofPicture(-1, 0));
        for (int what : new int[] {-1, 4, 9, 12, 14, 25, 26, MIN, MAX}) {
            due(OUTSIDE, "what " + what, x.ofPicture(0, what));
        }

        begin("4 alter");
        due(0, "picture", draw(2, 1, 5, 9));
        due(0, "lens", x.lens(7));
        int seal = x.take(0, 0, 1);
        due(9, "alter", x.alter(0, 1, 99));
        due(99, "alter", x.alter(0, 1, 0));
        squares(0, 2, 1, 5, 0);
        due(seal, "the line stays", x.line(0, 3));
        due(UNKNOWN, "picture", x.alter(1, 0, 0));
        for (int place : new int[] {-1, 2, 4, 16, MIN, MAX}) {
            due(UNKNOWN, "place " + place, x.alter(0, place, 100));
        }
        due(OUTSIDE, "100", x.alter(0, 0, 100));
        due(OUTSIDE, "-1", x.alter(0, 0, -1));
        squares(0, 2, 1, 5, 0);
    }

    private void texts() {
        begin("FIRST FAULT");
        draw(1, 1, 50);
        String[] faulty = {
            "", "x", ";", "c", "c1", "c12", "c123", "c123x", "cx", "c12345", "b", "b000;", "t;", "t;;", "tt",
            "l", "l;", "l0", "l00", "l0;t", "l00;t", "lx", "m", "m0", "m00", "m5x", "m555",
            "q", "q0", "q1", "qx", "q:", "q22", "t;l", "t;l0", "t;l00", "t;x",
            "t;t;t;t;t;", "t;t;t;t;t;t", "t;t;t;t;tt", "t;t;t;t;", "q2;q3;q4;q5;q6;q7", "T", "t ", "c 000", "c/000", "c000:",
        };
        int[] places = {
            0, 0, 0, 1, 2, 3, 4, 4, 1, 5, 1, 4, 2, 2, 1,
            1, 1, 1, 1, 1, 1, 1, 1, 1, 1, 2, 3,
            1, 1, 1, 1, 1, 2, 3, 3, 3, 2,
            9, 9, 9, 8, 14, 0, 1, 1, 1, 4,
        };
        for (int k = 0; k < faulty.length; k++) {
            due(-100 - places[k], "act by '" + faulty[k] + "'", act(0, faulty[k]));
            due(0, "fault()", x.fault());
        }
        due(1, "many(0)", x.many(0));
        String[] right = {"t", "l1", "l01", "l9", "l99", "m10", "m09", "q2", "q9", "t;t;t;t;t", "c0011;b0011;t;l5;m5"};
        for (int k = 0; k < right.length; k++) {
            due(1 + k, "act by '" + right[k] + "'", act(0, right[k]));
        }
        begin("codes of ints are not cut");
        draw(1, 1, 50);
        fill(2, 2, 116 + 65536, 116);
        due(-100, "beyond a char", x.act(0, 2, 2, 0, 1));
        due(1, "its neighbour", x.act(0, 2, 2, 1, 1));
        due(-100, "no cells", x.act(0, 2, 2, 1, 0));
        due(-100, "no cells at the end", x.act(0, 2, 2, 2, 0));
        due(INDEX, "no cells behind the end", x.act(0, 2, 2, 3, 0));
        due(INDEX, "no cells ahead of the row", x.act(0, 2, 2, -1, 0));
    }

    private void acts() {
        begin("10 act: what is done");
        draw(3, 2, 1, 2, 3, 40, 50, 99);
        due(1, "turned", act(0, "t"));
        squares(1, 2, 3, 40, 1, 50, 2, 99, 3);
        due(2, "cut", act(0, "c1022"));
        squares(2, 2, 2, 2, 3, 50, 99);
        due(3, "blurred", act(0, "b0012"));
        squares(3, 3, 2, 20, 2, 3, 20, 50, 99);
        due(4, "lighter", act(0, "l50"));
        squares(4, 3, 2, 51, 52, 53, 90, 99, 99);
        due(5, "darker", act(0, "m3"));
        squares(5, 3, 2, 0, 0, 0, 37, 47, 96);
        due(6, "worse", act(0, "q7"));
        squares(6, 3, 2, 0, 0, 0, 35, 49, 98);
        due(7, "one after another", act(0, "t;c0121;l1;m2;q2"));
        squares(7, 2, 1, 48, 0);
        due(8, "turned four times", act(0, "t;t;t;t"));
        squares(8, 3, 2, 1, 2, 3, 40, 50, 99);
        due(9, "all of it", act(0, "c0032;b0032"));
        squares(9, 3, 2, 32, 32, 32, 32, 32, 32);
        due(0, "without a line", x.many(2));
        squares(0, 3, 2, 1, 2, 3, 40, 50, 99);

        begin("10 act: what is done to a part, to all of 4 by 4");
        draw(4, 4, 0, 1, 2, 3, 10, 11, 12, 13, 20, 21, 22, 23, 30, 31, 32, 33);
        due(1, "a part is cut", act(0, "c1122"));
        squares(1, 2, 2, 11, 12, 21, 22);
        due(2, "a part is blurred", act(0, "b1122"));
        squares(2, 4, 4, 0, 1, 2, 3, 10, 16, 16, 13, 20, 16, 16, 23, 30, 31, 32, 33);
        due(3, "turned", act(0, "t"));
        squares(3, 4, 4, 30, 20, 10, 0, 31, 21, 11, 1, 32, 22, 12, 2, 33, 23, 13, 3);
        due(4, "one square is cut", act(0, "c2111"));
        squares(4, 1, 1, 12);
        due(5, "one square is blurred", act(0, "b3211;c2222"));
        squares(5, 2, 2, 22, 23, 32, 33);

        begin("10 act: refusals");
        draw(3, 2, 1, 2, 3, 40, 50, 99);
        int n = write("t;x");
        due(UNKNOWN, "picture", x.act(1, 3, 3, 0, n));
        due(UNKNOWN, "sheet", x.act(0, 4, 3, 0, n));
        due(OUTSIDE, "lane", x.act(0, 3, 3, 0, n));
        due(CAST, "cast ahead of size", x.act(0, 3, 1, 9, -1));
        due(2, "fault()", x.fault());
        due(NULL, "null ahead of size", x.act(0, 2, 1, 9, -1));
        due(1, "fault()", x.fault());
        due(SIZE, "size ahead of index", x.act(0, 3, 0, 9, -1));
        due(4, "fault()", x.fault());
        due(SIZE, "size", x.act(0, 3, 0, 0, MIN));
        due(INDEX, "index", x.act(0, 3, 0, 1, 3));
        due(3, "fault()", x.fault());
        due(INDEX, "index", x.act(0, 3, 0, 1, MAX));
        due(INDEX, "index", x.act(0, 3, 0, -1, 1));
        due(-102, "first fault", x.act(0, 3, 0, 0, 3));
        due(0, "fault()", x.fault());
        String[] cannot = {"c0000", "c0001", "c0010", "c3011", "c0211", "c1031", "c0112", "b0001", "b0010",
            "b2021", "b0112", "c9999", "t;c2011", "c0011;c1011", "b0033"};
        for (String text : cannot) {
            due(STATE, "act by " + text, act(0, text));
        }
        for (int p = 1; p < 12; p++) {
            due(p, "number", act(0, "t"));
        }
        due(-101, "first fault ahead of full", act(0, "t?"));
        due(STATE, "state ahead of full", act(0, "c0000"));
        due(FULL, "full", act(0, "t"));
    }

    private void lines() {
        begin("5 lens");
        due(OUTSIDE, "key 0", x.lens(0));
        due(OUTSIDE, "key 9973", x.lens(9973));
        due(OUTSIDE, "key -1", x.lens(-1));
        due(0, "key 1", x.lens(1));
        due(1, "key 9972", x.lens(9972));
        for (int k = 2; k < 6; k++) {
            due(k, "lens", x.lens(5));
        }
        due(OUTSIDE, "outside ahead of full", x.lens(0));
        due(FULL, "a seventh", x.lens(5));
        due(6, "many(1)", x.many(1));

        begin("6 steal");
        due(0, "lens", x.lens(1));
        due(UNKNOWN, "lens", x.steal(1, 1001));
        due(UNKNOWN, "lens", x.steal(-1, 0));
        due(OUTSIDE, "hour", x.steal(0, 1001));
        due(OUTSIDE, "hour", x.steal(0, -1));
        due(1000, "from 0 on", x.steal(0, 0));
        due(0, "not", x.steal(0, 1000));
        due(1000, "from 999 on", x.steal(0, 999));
        due(999, "from 3 on", x.steal(0, 3));

        begin("7 take");
        draw(2, 1, 5, 9);
        x.lens(77);
        due(UNKNOWN, "picture", x.take(1, 0, 1000));
        due(UNKNOWN, "lens", x.take(0, 1, 1000));
        due(OUTSIDE, "hour 1000", x.take(0, 0, 1000));
        due(OUTSIDE, "hour -1", x.take(0, 0, -1));
        due((561 * 77 + 13 * 999 + 2 * 5 + 1) % 9973, "seal", x.take(0, 0, 999));
        due(OUTSIDE, "hour ahead of state", x.take(0, 0, 1000));
        due(STATE, "it has one", x.take(0, 0, 999));
        due(1, "torn", x.tear(0));
        due((561 * 77 + 2 * 5 + 1) % 9973, "seal", x.take(0, 0, 0));

        begin("8 hush");
        draw(2, 1, 5, 9);
        draw(2, 1, 5, 9);
        x.lens(77);
        due(UNKNOWN, "picture", x.hush(2, 0, 0, 1000));
        due(UNKNOWN, "from", x.hush(1, 2, 0, 1000));
        due(UNKNOWN, "lens", x.hush(1, 0, 1, 1000));
        due(OUTSIDE, "hour", x.hush(1, 1, 0, 1000));
        due(STATE, "from itself", x.hush(1, 1, 0, 0));
        due(STATE, "from a later one", x.hush(0, 1, 0, 0));
        due((561 * 77 + 13 * 4 + 11) % 9973, "seal", x.hush(1, 0, 0, 4));
        due(STATE, "it has one", x.hush(1, 0, 0, 4));
        due(1, "many(2)", x.many(2));

        begin("9 change");
        draw(2, 1, 5, 9);
        draw(2, 1, 5, 9);
        x.lens(77);
        int n = write("t;t?");
        due(UNKNOWN, "picture", x.change(2, 0, 0, 1000, 3, 3, 0, n));
        due(UNKNOWN, "from", x.change(1, 2, 0, 1000, 3, 3, 0, n));
        due(UNKNOWN, "lens", x.change(1, 0, 1, 1000, 3, 3, 0, n));
        due(UNKNOWN, "sheet", x.change(1, 0, 0, 1000, 4, 3, 0, n));
        due(OUTSIDE, "hour", x.change(1, 0, 0, 1000, 3, 1, 0, n));
        due(OUTSIDE, "lane", x.change(1, 0, 0, 0, 3, 3, 0, n));
        due(0, "fault()", x.fault());
        due(CAST, "cast", x.change(1, 0, 0, 0, 3, 2, 9, -1));
        due(2, "fault()", x.fault());
        due(NULL, "null", x.change(1, 0, 0, 0, 2, 2, 9, -1));
        due(1, "fault()", x.fault());
        due(SIZE, "size", x.change(1, 0, 0, 0, 3, 0, 9, -1));
        due(4, "fault()", x.fault());
        due(INDEX, "index", x.change(1, 0, 0, 0, 3, 0, 1, n));
        due(3, "fault()", x.fault());
        due(-103, "first fault ahead of state", x.change(0, 1, 0, 0, 3, 0, 0, n));
        due(STATE, "from itself", x.change(1, 1, 0, 0, 3, 0, 0, 3));
        due(STATE, "from a later one", x.change(0, 1, 0, 0, 3, 0, 0, 3));
        due(0, "fault()", x.fault());
        due((561 * 77 + 13 * 4 + 11) % 9973, "seal", x.change(1, 0, 0, 4, 3, 0, 2, 1));
        due(STATE, "it has one", x.change(1, 0, 0, 4, 3, 0, 0, 1));
        due(1, "acts", x.line(1, 5));
        due(1, "tear", x.tear(1));
        due((561 * 77 + 11) % 9973, "acts that cannot be done", change(1, 0, 0, 0, "c9999;t;t;t;t"));
        due(5, "acts", x.line(1, 5));

        begin("11 tear");
        draw(1, 1, 5);
        x.lens(77);
        due(UNKNOWN, "picture", x.tear(1));
        due(UNKNOWN, "picture", x.tear(-1));
        due(0, "none", x.tear(0));
        x.take(0, 0, 5);
        due(1, "many(2)", x.many(2));
        due(1, "torn", x.tear(0));
        due(0, "none", x.tear(0));
        due(0, "many(2)", x.many(2));

        begin("12 line");
        draw(1, 1, 5);
        draw(1, 1, 5);
        draw(1, 1, 5);
        x.lens(77);
        x.lens(78);
        due(UNKNOWN, "picture ahead of what", x.line(3, 6));
        due(OUTSIDE, "what ahead of state", x.line(0, 6));
        due(OUTSIDE, "what", x.line(0, -1));
        due(STATE, "none", x.line(0, 0));
        int seal = x.take(0, 0, 5);
        int[][] told = {
            {0, 0, 5, seal, NONE, 0},
            {1, 1, 6, change(1, 0, 1, 6, "l3;m3"), 0, 2},
            {2, 1, 7, x.hush(2, 1, 1, 7), 1, 0},
        };
        for (int p = 0; p < 3; p++) {
            for (int what = 0; what < 6; what++) {
                due(told[p][what], "line(" + p + ", " + what + ")", x.line(p, what));
            }
        }
    }

    private void ways() {
        begin("13 speaks, 14 play, 15 within");
        draw(2, 2, 10, 20, 30, 40);
        due(1, "act", act(0, "t;l5"));
        x.lens(77);
        x.lens(78);
        due(STATE, "speaks", x.speaks(0));
        due(STATE, "play", x.play(0));
        due(UNKNOWN, "speaks", x.speaks(2));
        due(UNKNOWN, "play", x.play(2));
        x.take(0, 0, 5);
        due(0, "speaks", x.speaks(0));
        due(STATE, "play of one that is taken", x.play(0));
        change(1, 0, 1, 6, "t;l5");
        due(0, "speaks", x.speaks(1));
        due(NONE, "play", x.play(1));
        due(30, "alter what it comes from", x.alter(0, 4, 32));
        due(2, "speaks", x.speaks(0));
        due(4, "speaks", x.speaks(1));
        due(0, "play", x.play(1));
        due(0, "within", x.within(1));
        due(0, "play", x.play(1));
        due(1, "within", x.within(2));
        due(NONE, "as far as within", x.play(1));
        due(0, "speaks", x.speaks(1));
        due(OUTSIDE, "within 21", x.within(21));
        due(OUTSIDE, "within -1", x.within(-1));
        due(2, "within 20", x.within(20));
        due(20, "within 0", x.within(0));
        due(25, "alter it", x.alter(1, 5, 26));
        due(2, "a broken seal ahead of acts", x.speaks(1));
        due(1000, "steal", x.steal(1, 7));
        due(2, "stolen later", x.speaks(1));
        due(7, "steal", x.steal(1, 6));
        due(3, "stolen by then, ahead of all", x.speaks(1));
        x.steal(1, 1000);
        x.tear(1);
        change(1, 0, 1, 6, "c0012");
        due(-21, "another size", x.play(1));
        due(4, "speaks", x.speaks(1));
        x.tear(1);
        change(1, 0, 1, 6, "c0021");
        due(-21, "another size", x.play(1));
        x.tear(1);
        change(1, 0, 1, 6, "t;c0022;c0003");
        due(-20, "it cannot be done", x.play(1));
        due(4, "speaks", x.speaks(1));
        x.tear(1);
        x.hush(1, 0, 1, 6);
        due(1, "silent", x.speaks(1));
        due(STATE, "play of a silent one", x.play(1));
        x.alter(1, 0, 1);
        due(2, "a broken seal ahead of silence", x.speaks(1));
        x.steal(1, 0);
        due(3, "a stolen key ahead of silence", x.speaks(1));

        begin("14 play: the first place");
        draw(2, 2, 10, 20, 30, 40);
        draw(2, 2, 10, 20, 31, 41);
        x.lens(77);
        change(1, 0, 0, 6, "l1;m1");
        due(4, "play", x.play(1));
        x.alter(1, 1, 19);
        due(1, "play", x.play(1));

        begin("16 way, 17 doubt, 18 whole");
        for (int p = 0; p < 12; p++) {
            draw(1, 1, 50);
        }
        x.lens(77);
        x.take(0, 0, 5);
        for (int p = 1; p < 12; p++) {
            change(p, p - 1, 0, 5, "t");
        }
        due(12, "way", x.way(11, -1));
        for (int k = 0; k < 12; k++) {
            due(11 - k, "way", x.way(11, k));
        }
        due(2, "way", x.way(1, -1));
        due(NONE, "way", x.way(1, 2));
        due(NONE, "way", x.way(1, 11));
        due(UNKNOWN, "way", x.way(1, 12));
        due(UNKNOWN, "way", x.way(1, -2));
        due(UNKNOWN, "way", x.way(12, 0));
        due(UNKNOWN, "doubt", x.doubt(12));
        due(UNKNOWN, "whole", x.whole(12));
        due(NONE, "doubt", x.doubt(11));
        due(1, "whole", x.whole(11));
        x.tear(3);
        due(3, "no line", x.doubt(11));
        due(0, "whole", x.whole(11));
        due(9, "the way ends there", x.way(11, -1));
        due(NONE, "doubt", x.doubt(2));
        due(1, "whole", x.whole(2));
        x.hush(3, 1, 0, 5);
        due(NONE, "silence is no doubt", x.doubt(11));
        due(0, "but not whole", x.whole(11));
        due(11, "a way that leaves one out", x.way(11, -1));
        due(1, "way", x.way(11, 9));
        x.tear(3);
        x.take(3, 0, 5);
        due(1, "whole", x.whole(11));
        due(9, "way", x.way(11, -1));
        x.alter(7, 0, 51);
        due(8, "what comes from it does not play", x.doubt(11));
        x.within(1);
        due(7, "its own seal is broken", x.doubt(11));
        x.alter(7, 0, 50);
        x.steal(0, 6);
        due(NONE, "stolen later", x.doubt(11));
        x.steal(0, 5);
        due(11, "stolen by then", x.doubt(11));
        due(0, "whole", x.whole(0));
    }

    private void proofs() {
        begin("19 proof, 20 proves");
        int[] squares = {3, 1, 4, 15, 92, 65, 35, 89, 79, 32, 38, 46};
        draw(3, 4, squares);
        int root = x.ofPicture(0, 3);
        for (int place = 0; place < 16; place++) {
            int[] path = new int[4];
            for (int k = 0; k < 4; k++) {
                path[k] = x.proof(0, place, k);
            }
            fill(2, 2, 9, path[0], path[1], path[2], path[3]);
            int v = place % 4 < 3 ? squares[place % 4 + 3 * (place / 4)] : -1;
            due(1, "proves", x.proves(place, v, root, 2, 2, 1));
            due(0, "another square", x.proves(place, v + 1, root, 2, 2, 1));
            due(0, "another root", x.proves(place, v, root + 1, 2, 2, 1));
            due(0, "other numbers", x.proves(place, v, root, 2, 2, 0));
            due(0, "another place", x.proves(place ^ 1, v, root, 2, 2, 1));
            x.put(2, 1, path[0] + 9973);
            due(0, "a number beyond 9972", x.proves(place, v, root, 2, 2, 1));
            x.put(2, 1, path[0] - 9973);
            due(0, "a number below 0", x.proves(place, v, root, 2, 2, 1));
        }
        due(UNKNOWN, "picture", x.proof(1, 0, 0));
        due(UNKNOWN, "place 16", x.proof(0, 16, 0));
        due(UNKNOWN, "place -1", x.proof(0, -1, 0));
        due(UNKNOWN, "k 4", x.proof(0, 0, 4));
        due(UNKNOWN, "k -1", x.proof(0, 0, -1));
        due(UNKNOWN, "sheet", x.proves(0, 100, root, 4, 3, 0));
        due(UNKNOWN, "place", x.proves(16, 100, root, 2, 3, 0));
        due(UNKNOWN, "place", x.proves(-1, 100, root, 2, 3, 0));
        due(OUTSIDE, "v 100", x.proves(0, 100, root, 2, 1, 0));
        due(OUTSIDE, "v -2", x.proves(0, -2, root, 2, 1, 0));
        due(OUTSIDE, "lane", x.proves(0, 0, root, 2, 3, 0));
        due(CAST, "cast", x.proves(0, 0, root, 2, 1, 9));
        due(2, "fault()", x.fault());
        due(NULL, "null", x.proves(0, 0, root, 1, 1, 9));
        due(1, "fault()", x.fault());
        due(INDEX, "index", x.proves(0, 0, root, 2, 2, 2));
        due(3, "fault()", x.fault());
        due(INDEX, "index", x.proves(0, 0, root, 2, 2, -1));
        due(0, "a root beyond all", x.proves(0, 0, MIN, 2, 2, 1));
        due(0, "fault()", x.fault());

        begin("20 proves: the greatest number");
        int number = 31 + 17 * 9972 + 5;
        for (int k = 1; k < 4; k++) {
            number = 31 * (number % 9973) + 5;
        }
        fill(2, 2, 9972, 0, 0, 0);
        due(1, "proves", x.proves(0, 0, number % 9973, 2, 2, 0));

        begin("19 proof by hand");
        draw(2, 1, 5, 9);
        int pair = (31 * 6 + 17 * 10 + 5) % 9973;
        int four = (31 * pair + 17 * 5 + 5) % 9973;
        int none4 = 31 * 5 + 17 * 5 + 5;
        int eight = (31 * four + 17 * none4 + 5) % 9973;
        due(6, "beside place 1", x.proof(0, 1, 0));
        due(pair, "beside place 2", x.proof(0, 2, 1));
        due(four, "beside place 4", x.proof(0, 4, 2));
        due(eight, "beside place 8", x.proof(0, 8, 3));
    }

    private void marks() {
        begin("21 hide, 22 found");
        draw(3, 3, 0, 0, 1, 1, 99, 98, 50, 50, 77);
        due(6, "found", x.found(0, 0b00000100));
        due(5, "found", x.found(0, 0b00000110));
        due(3, "hide", x.hide(0, 0b00000110));
        squares(0, 3, 3, 0, 1, 1, 0, 98, 98, 50, 50, 77);
        due(8, "found", x.found(0, 0b00000110));
        due(0, "hide", x.hide(0, 0b00000110));
        due(8, "hide", x.hide(0, 0b11111001));
        squares(0, 3, 3, 1, 0, 0, 1, 97, 97, 49, 49, 77);
        due(UNKNOWN, "picture", x.hide(1, 256));
        due(OUTSIDE, "256", x.hide(0, 256));
        due(OUTSIDE, "-1", x.hide(0, -1));
        due(UNKNOWN, "picture", x.found(1, 256));
        due(OUTSIDE, "256", x.found(0, 256));
        due(OUTSIDE, "-1", x.found(0, -1));
        draw(1, 3, 2, 3, 4);
        due(3, "bits beyond are left out", x.found(1, 0b11111010));
        due(1, "hide", x.hide(1, 0b11111011));
        squares(1, 1, 3, 1, 3, 4);

        begin("22 found: the ninth square is left out");
        draw(3, 3, 0, 0, 0, 0, 0, 0, 0, 0, 0);
        due(8, "found", x.found(0, 0));
        due(256, "lower", x.falsely(0, 0, 1));

        begin("23 falsely");
        draw(4, 2, 0, 0, 0, 0, 0, 0, 0, 0);
        draw(3, 1, 0, 0, 0);
        long[] upper = {1, 255, 247, 219, 163, 93, 37, 9, 1};
        long[] lower = {1, 256, 256, 256, 256, 256, 256, 256, 256};
        for (int k = 0; k <= 8; k++) {
            int mark = 255 >> k;
            due(upper[k], "upper of " + k, x.falsely(0, mark, 0));
            due(lower[k], "lower of " + k, x.falsely(0, mark, 1));
        }
        long[] upper3 = {1, 7, 1, 1};
        long[] lower3 = {1, 8, 2, 8};
        for (int k = 0; k <= 3; k++) {
            int mark = 248 + (7 >> k);
            due(upper3[k], "upper of " + k, x.falsely(1, mark, 0));
            due(lower3[k], "lower of " + k, x.falsely(1, mark, 1));
        }
        long lost = Long.MIN_VALUE;
        due(lost, "picture", x.falsely(2, 0, 0));
        due(lost, "mark", x.falsely(0, 256, 0));
        due(lost, "mark", x.falsely(0, -1, 0));
        due(lost, "which", x.falsely(0, 0, 2));
        due(lost, "which", x.falsely(0, 0, -1));

        begin("24 like: each part of it");
        draw(3, 1, 10, 10, 40);
        draw(3, 1, 10, 31, 40);
        draw(3, 1, 13, 7, 44);
        due(7, "means", x.like(0, 1));
        due(1 + 3 + 4, "all", x.like(0, 2));
        due(6 + 3 + 4, "all", x.like(1, 2));

        begin("24 like, 25 nearest");
        draw(2, 1, 10, 21);
        draw(2, 1, 10, 20);
        draw(1, 1, 15);
        draw(2, 2, 10, 10, 21, 21);
        draw(2, 1, 21, 10);
        due(0, "of one with itself", x.like(0, 0));
        due(1, "means are cut", x.like(0, 1));
        due(5 + 6, "of other sizes", x.like(0, 2));
        due(5 + 6, "the other way", x.like(2, 0));
        due(0, "mean 15 of four", x.like(0, 3));
        due(UNKNOWN, "picture", x.like(5, 0));
        due(UNKNOWN, "picture", x.like(0, 5));
        int[] near = {3, 4, 1, 2, NONE, NONE};
        for (int k = 0; k < near.length; k++) {
            due(near[k], "nearest " + k, x.nearest(0, k));
        }
        due(NONE, "nearest 10", x.nearest(0, 10));
        due(UNKNOWN, "k 11", x.nearest(0, 11));
        due(UNKNOWN, "k -1", x.nearest(0, -1));
        due(UNKNOWN, "picture", x.nearest(5, 0));
    }

    private void looks() {
        begin("26 coarse");
        draw(1, 1, 5);
        x.lens(77);
        due(UNKNOWN, "picture", x.coarse(1, 0));
        due(OUTSIDE, "c 0", x.coarse(0, 0));
        due(OUTSIDE, "c 25", x.coarse(0, 25));
        due(STATE, "no line", x.coarse(0, 1));
        x.take(0, 0, 143);
        due(143, "by 1", x.coarse(0, 1));
        due(140, "by 7", x.coarse(0, 7));
        due(120, "by 24", x.coarse(0, 24));
        due(143, "the line's own stays", x.line(0, 2));

        begin("27 look");
        draw(1, 1, 5);
        due(UNKNOWN, "picture", x.look(1, 0, 100));
        due(OUTSIDE, "hours 0", x.look(0, 0, 0));
        due(OUTSIDE, "hours 10", x.look(0, 10, 0));
        due(OUTSIDE, "worth -1", x.look(0, 1, -1));
        due(OUTSIDE, "worth 100", x.look(0, 1, 100));
        for (int k = 0; k < 9; k++) {
            due(k, "look", x.look(0, 9, 99));
        }
        due(OUTSIDE, "outside ahead of full", x.look(0, 10, 0));
        due(FULL, "a tenth", x.look(0, 1, 0));
        due(9, "many(3)", x.many(3));
        due(511, "all that there are", x.best(81, 0));
        due(255, "of several the least as a number", x.best(80, 0));
        due(9 * 99, "worth", x.best(99, 1));
        due(81, "hours", x.best(99, 2));
        due(511, "doubtful", x.doubtful());

        begin("28 best");
        due(0, "of none", x.best(99, 0));
        draw(1, 1, 5);
        x.look(0, 6, 30);
        x.look(0, 5, 20);
        x.look(0, 5, 20);
        x.look(0, 4, 10);
        x.look(0, 1, 0);
        x.look(0, 4, 10);
        int[][] due = {
            {0, 0, 0, 0}, {3, 0, 0, 0}, {4, 8, 10, 4}, {5, 2, 20, 5}, {6, 1, 30, 6}, {9, 1, 30, 6},
            {10, 6, 40, 10}, {11, 3, 50, 11}, {15, 11, 60, 15}, {16, 7, 70, 16}, {99, 47, 90, 24},
        };
        for (int[] row : due) {
            for (int what = 0; what < 3; what++) {
                due(row[1 + what], "best(" + row[0] + ", " + what + ")", x.best(row[0], what));
            }
        }
        due(OUTSIDE, "hours 100", x.best(100, 0));
        due(OUTSIDE, "hours -1", x.best(-1, 0));
        due(OUTSIDE, "what 3", x.best(0, 3));
        due(OUTSIDE, "what -1", x.best(0, -1));

        begin("28 best: of as much worth that of the least hours");
        draw(1, 1, 5);
        x.look(0, 9, 20);
        x.look(0, 3, 10);
        x.look(0, 3, 10);
        due(6, "set", x.best(9, 0));
        due(6, "hours", x.best(9, 2));

        begin("29 doubtful");
        draw(1, 1, 5);
        draw(1, 1, 5);
        draw(1, 1, 5);
        x.lens(3);
        x.take(0, 0, 1);
        x.hush(1, 0, 0, 2);
        x.look(2, 1, 1);
        x.look(1, 1, 1);
        x.look(0, 1, 1);
        x.look(2, 1, 1);
        due(0b1001, "those without a line", x.doubtful());
        x.steal(0, 2);
        due(0b1011, "and one by a stolen key", x.doubtful());
        x.steal(0, 1000);
        x.alter(0, 0, 6);
        due(0b1111, "and what comes from an altered one", x.doubtful());
    }

    private void sheets() {
        begin("30 sheet");
        due(UNKNOWN, "sheet", x.sheet(4, 3, 61));
        due(UNKNOWN, "sheet", x.sheet(-1, 0, 1));
        due(OUTSIDE, "lane ahead of size", x.sheet(0, 3, -1));
        due(OUTSIDE, "lane", x.sheet(0, -1, 1));
        due(OUTSIDE, "n 61", x.sheet(0, 0, 61));
        due(SIZE, "size", x.sheet(0, 0, -1));
        due(4, "fault()", x.fault());
        due(SIZE, "size", x.sheet(0, 2, MIN));
        due(OUTSIDE, "n", x.sheet(0, 0, MAX));
        due(0, "fault()", x.fault());
        due(1, "none", x.sheet(0, 0, 0));
        due(INDEX, "put", x.put(0, 0, 1));
        due(1, "sixty", x.sheet(0, 2, 60));
        due(1, "put", x.put(0, 59, 7));
        due(SIZE, "a fault changes nothing", x.sheet(0, 0, -1));
        due(7, "cell", x.cell(0, 59, 2));
        due(1, "a new row", x.sheet(0, 2, 60));
        due(0, "cell", x.cell(0, 59, 2));

        begin("31 lose");
        due(UNKNOWN, "sheet", x.lose(4));
        due(UNKNOWN, "sheet", x.lose(-1));
        due(0, "nothing", x.lose(3));
        x.sheet(3, 0, 0);
        due(1, "a row", x.lose(3));
        due(0, "nothing", x.lose(3));
        due(NULL, "put", x.put(3, 0, 0));

        begin("32 put, 33 cell");
        long lost = Long.MIN_VALUE;
        due(UNKNOWN, "put", x.put(4, 0, 0));
        due(NULL, "put", x.put(0, -1, 0));
        due(1, "fault()", x.fault());
        due(UNKNOWN, "put", x.put(-1, 0, 0));
        due(0, "a refusal leaves no fault", x.fault());
        for (int lane = 0; lane < 3; lane++) {
            x.sheet(lane, lane, 2);
            due(INDEX, "put", x.put(lane, 2, 0));
            due(INDEX, "put", x.put(lane, -1, 0));
            due(3, "fault()", x.fault());
            due(1, "put", x.put(lane, 1, 0x12348765));
            due(0, "fault()", x.fault());
            due(0, "cell", x.cell(lane, 0, lane));
            due(lost, "cell", x.cell(lane, 2, lane));
            due(3, "fault()", x.fault());
            due(lost, "cell", x.cell(lane, -1, lane));
            due(lost, "cast ahead of index", x.cell(lane, 9, (lane + 1) % 3));
            due(2, "fault()", x.fault());
            due(lost, "lane", x.cell(lane, 0, 3));
            due(0, "fault()", x.fault());
            due(lost, "nothing is no cast", x.cell(3, 0, lane));
            due(1, "fault()", x.fault());
            due(lost, "sheet", x.cell(4, 0, lane));
            due(0, "fault()", x.fault());
        }
        due(0x65, "a byte", x.cell(0, 1, 0));
        due((short) 0x8765, "a short", x.cell(1, 1, 1));
        due(0x12348765, "an int", x.cell(2, 1, 2));
        x.put(2, 0, MIN);
        due(MIN, "an int", x.cell(2, 0, 2));
        x.put(0, 0, 200);
        due(-56, "a byte", x.cell(0, 0, 0));

        begin("34 copy");
        fill(0, 1, 1, 2, 3, 4, 5);
        fill(1, 1, 7, 8, 9);
        fill(2, 2, 7, 8, 9);
        due(UNKNOWN, "sheet", x.copy(4, 0, 3, 0, 0));
        due(UNKNOWN, "other", x.copy(3, 0, -1, 0, 0));
        due(NULL, "the first", x.copy(3, -1, 2, 0, 0));
        due(NULL, "the other", x.copy(0, -1, 3, 0, 0));
        due(1, "fault()", x.fault());
        due(CAST, "lanes, of no cells too", x.copy(0, -1, 2, 0, 0));
        due(2, "fault()", x.fault());
        due(INDEX, "n", x.copy(0, 0, 1, 0, -1));
        due(3, "fault()", x.fault());
        due(INDEX, "n", x.copy(0, 0, 1, 0, MIN));
        due(INDEX, "i", x.copy(0, -1, 1, 0, 1));
        due(INDEX, "j", x.copy(0, 0, 1, -1, 1));
        due(INDEX, "i", x.copy(0, 4, 1, 0, 2));
        due(INDEX, "j", x.copy(0, 0, 1, 2, 2));
        due(INDEX, "n", x.copy(0, 0, 1, 0, MAX));
        due(INDEX, "no cells behind the end", x.copy(0, 6, 1, 0, 0));
        due(INDEX, "no cells behind the end", x.copy(0, 0, 1, 4, 0));
        due(0, "no cells at the end", x.copy(0, 5, 1, 3, 0));
        due(0, "fault()", x.fault());
        due(2, "copy", x.copy(0, 3, 1, 1, 2));
        cells(1, 1, 7, 4, 5);
        due(4, "up in the same", x.copy(0, 0, 0, 1, 4));
        cells(0, 1, 1, 1, 2, 3, 4);
        due(3, "down in the same", x.copy(0, 2, 0, 0, 3));
        cells(0, 1, 2, 3, 4, 3, 4);
    }

    private void cells(int sheet, int lane, int... values) {
        for (int i = 0; i < values.length; i++) {
            due(values[i], "cell " + i, x.cell(sheet, i, lane));
        }
    }

    private void parts() {
        begin("35 tell, 36 show, 38 trace");
        draw(1, 1, 5);
        draw(1, 1, 5);
        draw(1, 1, 5);
        x.lens(77);
        due(UNKNOWN, "tell", x.tell(3));
        due(UNKNOWN, "show", x.show(-1));
        due(STATE, "tell", x.tell(0));
        due(STATE, "show", x.show(0));
        due(0, "trace()", x.trace());
        int seal = x.take(0, 0, 11);
        int changed = change(1, 0, 0, 12, "t");
        x.hush(2, 1, 0, 13);
        int trace = 0;
        due(11, "tell", x.tell(0));
        trace = 31 * trace + 1;
        due(trace, "trace()", x.trace());
        due(1012, "tell", x.tell(1));
        trace = 31 * (31 * trace + 2) + 1;
        due(trace, "trace()", x.trace());
        due(1026, "tell", x.tell(2));
        trace = 31 * (31 * (31 * (31 * trace + 3) + 2) + 1) + 1;
        due(trace, "trace()", x.trace());
        x.alter(0, 0, 6);
        due(seal, "the seal as it was", x.show(0));
        due(changed, "show", x.show(1));
        trace = 31 * (31 * trace + 4) + 4;
        due(trace, "trace()", x.trace());
        due(33, "show", x.show(2));
        trace = 31 * trace + 5;
        due(trace, "trace()", x.trace());

        begin("37 as");
        draw(1, 1, 5);
        draw(1, 1, 5);
        draw(1, 1, 5);
        x.lens(77);
        due(UNKNOWN, "picture", x.as(3, 3));
        due(OUTSIDE, "kind", x.as(0, 3));
        due(OUTSIDE, "kind", x.as(0, -1));
        due(STATE, "none", x.as(0, 0));
        x.take(0, 0, 11);
        change(1, 0, 0, 12, "t");
        x.hush(2, 1, 0, 13);
        for (int p = 0; p < 3; p++) {
            for (int kind = 0; kind < 3; kind++) {
                due(kind <= p ? 1 : CAST, "as(" + p + ", " + kind + ")", x.as(p, kind));
                due(kind <= p ? 0 : 2, "fault()", x.fault());
            }
        }

        begin("39 fault");
        due(SIZE, "sheet", x.sheet(0, 0, -1));
        draw0();
        due(SIZE, "sheet", x.sheet(0, 0, -1));
        due(UNKNOWN, "a call that names no fault", x.tell(9));
        x.lose(0);
        x.many(0);
        due(4, "the latest that names one", x.fault());
        due(UNKNOWN, "a refusal", x.as(9, 0));
        due(0, "fault()", x.fault());

        begin("40 many");
        draw(1, 1, 5);
        draw(1, 1, 5);
        x.lens(77);
        x.lens(77);
        x.lens(77);
        x.take(0, 0, 1);
        for (int k = 0; k < 4; k++) {
            x.look(0, 1, 1);
        }
        int[] many = {2, 3, 1, 4};
        for (int what = 0; what < 4; what++) {
            due(many[what], "many", x.many(what));
        }
        due(OUTSIDE, "many(4)", x.many(4));
        due(OUTSIDE, "many(-1)", x.many(-1));
    }

    private void draw0() {
        due(0, "picture", draw(1, 1, 0));
        due(0, "fault()", x.fault());
    }
}
