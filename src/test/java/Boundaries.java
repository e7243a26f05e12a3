import java.util.ArrayList;
import java.util.HashMap;
import java.util.List;
import java.util.Map;
import java.util.Set;
import java.util.TreeSet;

/** What the cases share; each case has an instance, and so an object of the class, of its own. */
abstract class Boundaries {
    static final int UNKNOWN = -1, OUTSIDE = -2, STATE = -3, FULL = -4, NONE = -9;
    static final int NULL = -11, CAST = -12, INDEX = -13, SIZE = -14;
    static final int FIRST_FAULT = -100, PRIME = 9973;
    static final long LOST = Long.MIN_VALUE;

    private static final String A_SIZE_FAULT = "sheet(0, 0, -1)", AN_INDEX_FAULT = "put(0, 60, 0)";
    private static final Map<Scene, long[]> WITNESSED = new HashMap<>();
    private static final Map<Scene, Map<String, Scene>> BEHIND = new HashMap<>();

    Check check;
    PicturePapers x = new PicturePapers();

    /** A cause of a refusal or a fault: what is answered, and each way to have it in a call. */
    record Cause(long answer, int fault, List<List<int[]>> ways) {
    }

    // ---- calls on the case's own object

    void begin(Scene scene) {
        x = scene.made();
    }

    /** Each of the calls that a text stands for has this answer. */
    void due(long want, String calls) {
        for (Call call : Call.each(calls)) {
            check.due(call.on(x), want, call.toString());
        }
    }

    /** Calls of which only what comes of them matters; none may be refused. */
    void given(String... calls) {
        for (String text : calls) {
            for (Call call : Call.each(text)) {
                check.holds(call.on(x) >= 0, call + " is not refused");
            }
        }
    }

    void row(int sheet, int lane, int... values) {
        given("sheet(" + sheet + ", " + lane + ", " + values.length + ")");
        for (int i = 0; i < values.length; i++) {
            given("put(" + sheet + ", " + i + ", " + values[i] + ")");
        }
    }

    void text(int sheet, int lane, String text) {
        row(sheet, lane, text.chars().toArray());
    }

    void cells(int sheet, int lane, long... values) {
        for (int i = 0; i < values.length; i++) {
            due(values[i], "cell(" + sheet + ", " + i + ", " + lane + ")");
        }
        due(LOST, "cell(" + sheet + ", " + values.length + ", " + lane + ")");
    }

    int draw(int w, int h, int... squares) {
        row(0, 0, squares);
        return x.picture(w, h, 0, 0, 0);
    }

    void squares(int p, int w, int h, int... squares) {
        due(w, "ofPicture(" + p + ", 0)");
        due(h, "ofPicture(" + p + ", 1)");
        for (int place = 0; place < 16; place++) {
            boolean is = place % 4 < w && place / 4 < h;
            int want = is ? squares[place % 4 + w * (place / 4)] : OUTSIDE;
            due(want, "ofPicture(" + p + ", " + (10 + place) + ")");
        }
    }

    /** By a text of a row of bytes on sheet 1. */
    long act(int from, String text) {
        text(1, 0, text);
        return x.act(from, 1, 0, 0, text.length());
    }

    long change(int p, int from, int lens, int hour, String text) {
        text(1, 0, text);
        return x.change(p, from, lens, hour, 1, 0, 0, text.length());
    }

    // ---- refused calls

    /** The answer is due, fault() is as told, and all else is as it was. */
    void refused(Scene scene, long want, String calls) {
        for (Call call : Call.each(calls)) {
            refused(scene, want, isFault(want) ? (int) (-10 - want) : 0, call);
        }
    }

    /** Of calls that answer a long: the fault that it came to, or 0. */
    void lost(Scene scene, int fault, String calls) {
        for (Call call : Call.each(calls)) {
            refused(scene, LOST, fault, call);
        }
    }

    private static boolean isFault(long answer) {
        return answer <= NULL && answer >= SIZE;
    }

    private void refused(Scene scene, long want, int fault, Call call) {
        // What fault() tells ahead of the call is always another fault than the one due behind it.
        Scene before = behind(scene, fault == 4 ? AN_INDEX_FAULT : A_SIZE_FAULT);
        PicturePapers refusing = before.made();
        int faultBefore = refusing.fault();
        check.due(call.on(refusing), want, call.toString());
        check.due(refusing.fault(), call.namesFaults() ? fault : faultBefore, "fault() behind " + call);
        long[] was = WITNESSED.computeIfAbsent(before, made -> Witness.of(made, null));
        long[] is = Witness.of(before, call);
        for (int k = 0; k < was.length; k++) {
            if (was[k] != is[k]) {
                check.due(is[k], was[k], Witness.question(k) + " behind " + call);
            }
        }
    }

    // ---- answered calls

    /** Behind the call just these questions of a witness have another answer than without it. */
    void changesJust(Scene scene, String text, String... questions) {
        Call call = Call.one(text);
        Set<String> due = new TreeSet<>();
        for (String question : questions) {
            Call.each(question).forEach(one -> due.add(one.toString()));
        }
        long[] was = WITNESSED.computeIfAbsent(scene, made -> Witness.of(made, null));
        long[] is = Witness.of(scene, call);
        Set<String> got = new TreeSet<>();
        for (int k = 0; k < was.length; k++) {
            if (was[k] != is[k]) {
                got.add(Witness.question(k));
            }
        }
        check.holds(got.equals(due), call + " changes just " + due + ": " + got);
    }

    private static Scene behind(Scene scene, String call) {
        return BEHIND.computeIfAbsent(scene, one -> new HashMap<>())
                .computeIfAbsent(call, one -> scene.then(one));
    }

    // ---- the order of refusals

    /** Each way tells other arguments by their places: "0:9", or "4:3, 5:1"; "" is so already. */
    static Cause because(long answer, String... ways) {
        return new Cause(answer, isFault(answer) ? (int) (-10 - answer) : 0, read(ways));
    }

    static Cause becauseLost(int fault, String... ways) {
        return new Cause(LOST, fault, read(ways));
    }

    private static List<List<int[]>> read(String... ways) {
        List<List<int[]>> all = new ArrayList<>();
        for (String way : ways) {
            List<int[]> changes = new ArrayList<>();
            for (String change : way.isEmpty() ? new String[0] : way.split(",")) {
                String[] sides = change.trim().split(":");
                changes.add(new int[] {Integer.parseInt(sides[0]), Integer.parseInt(sides[1])});
            }
            all.add(changes);
        }
        return all;
    }

    /**
     * Of any two causes that can stand in one call the one told first is answered. NULL is given ahead
     * of CAST, as nothing is no CAST: where a call has both another lane and nothing, NULL is due.
     */
    void inOrder(Scene scene, String text, Cause... causes) {
        Call call = Call.one(text);
        for (int first = 0; first < causes.length; first++) {
            for (int later = first + 1; later < causes.length; later++) {
                both(scene, call, causes[first], causes[later]);
            }
        }
    }

    private void both(Scene scene, Call call, Cause first, Cause later) {
        for (List<int[]> one : first.ways()) {
            for (List<int[]> other : later.ways()) {
                if (canStandWith(one, other)) {
                    refused(scene, first.answer(), first.fault(), call.with(other).with(one));
                }
            }
        }
    }

    private static boolean canStandWith(List<int[]> one, List<int[]> other) {
        for (int[] change : one) {
            for (int[] another : other) {
                if (change[0] == another[0] && change[1] != another[1]) {
                    return false;
                }
            }
        }
        return true;
    }

    // ---- the tree and the seal, once more

    static int root(int w, int h, int... squares) {
        long[] numbers = new long[16];
        for (int k = 0; k < w * h; k++) {
            numbers[k % w + 4 * (k / w)] = squares[k] + 1;
        }
        for (int count = 8; count >= 1; count /= 2) {
            for (int k = 0; k < count; k++) {
                numbers[k] = (31 * numbers[2 * k] + 17 * numbers[2 * k + 1] + 5) % PRIME;
            }
        }
        return (int) numbers[0];
    }

    static int seal(int root, int key, int hour, int w, int h) {
        return (int) (((long) root * key + 13L * hour + 5L * w + h) % PRIME);
    }
}
