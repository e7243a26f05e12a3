import java.util.ArrayList;
import java.util.List;

/** Calls that bring an object to where a case begins; each object of a scene is a new one. */
final class Scene {
    /** Some of everything: sheet 3 has nothing, pictures 2 and 4 have no line. */
    static final Scene SOME = some();
    /** No picture, lens or look more: picture 2 has no line. */
    static final Scene FULL = full();

    private final List<Call> calls;

    private Scene(List<Call> calls) {
        this.calls = calls;
    }

    static Scene empty() {
        return new Scene(new ArrayList<>());
    }

    private static Scene some() {
        return empty()
                .row(0, 0, 1, 2, 3, 40, 50, 99, 0, 100, -1, 7)
                .text(1, 1, "t;l5;q0")
                .row(2, 2, 5, 9973, 0, 9972, 116, 70000)
                .then("picture(3, 2, 0, 0, 0)", "act(0, 1, 1, 0, 4)", "picture(1, 1, 0, 0, 9)")
                .then("picture(2, 2, 0, 0, 0)", "picture(1, 2, 0, 0, 4)")
                .then("lens(77)", "lens(5000)", "lens(9972)", "steal(1, 500)")
                .then("take(0, 0, 100)", "change(1, 0, 1, 200, 1, 1, 0, 4)", "hush(3, 1, 2, 300)")
                .then("look(0, 3, 10)", "look(1, 2, 10)", "look(2, 9, 50)")
                .then("within(3)", "tell(3)", "show(1)");
    }

    private static Scene full() {
        return some()
                .then("picture(1, 1, 0, 0, 0|1|2|3|4|5|6)")
                .then("lens(1|2|3)")
                .then("take(4|5|6|7|8|9|10|11, 0, 50)")
                .then("look(4|5|6|7|8|9, 4, 20)");
    }

    Scene then(String... texts) {
        List<Call> longer = new ArrayList<>(calls);
        for (String text : texts) {
            longer.addAll(Call.each(text));
        }
        return new Scene(longer);
    }

    Scene row(int sheet, int lane, int... values) {
        String[] texts = new String[1 + values.length];
        texts[0] = "sheet(" + sheet + ", " + lane + ", " + values.length + ")";
        for (int i = 0; i < values.length; i++) {
            texts[1 + i] = "put(" + sheet + ", " + i + ", " + values[i] + ")";
        }
        return then(texts);
    }

    Scene text(int sheet, int lane, String text) {
        return row(sheet, lane, text.chars().toArray());
    }

    /** A picture drawn from sheet 0. */
    Scene draw(int w, int h, int... squares) {
        return row(0, 0, squares).then("picture(" + w + ", " + h + ", 0, 0, 0)");
    }

    int length() {
        return calls.size();
    }

    PicturePapers made() {
        PicturePapers x = new PicturePapers();
        for (Call call : calls) {
            call.on(x);
        }
        return x;
    }
}
