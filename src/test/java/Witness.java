import java.util.ArrayList;
import java.util.List;

/** All that calls can tell of an object but its fault(), to see that a refused call changes nothing. */
final class Witness {
    private static final int MOST_CALLS = 512;
    private static final List<Call> QUESTIONS = questions();

    private Witness() {
    }

    private static List<Call> questions() {
        List<Call> all = new ArrayList<>();
        String pictures = "0|1|2|3|4|5|6|7|8|9|10|11";
        String places = "10|11|12|13|14|15|16|17|18|19|20|21|22|23|24|25";
        all.addAll(Call.each("trace()"));
        all.addAll(Call.each("many(0|1|2|3)"));
        all.addAll(Call.each("ofPicture(" + pictures + ", 0|1|2|3|" + places + ")"));
        all.addAll(Call.each("line(" + pictures + ", 0|1|2|3|4|5)"));
        for (String name : new String[] {"speaks", "play", "doubt", "whole"}) {
            all.addAll(Call.each(name + "(" + pictures + ")"));
        }
        for (int hours = 0; hours <= 81; hours++) {
            all.addAll(Call.each("best(" + hours + ", 0|1)"));
        }
        all.addAll(Call.each("doubtful()"));
        for (int i = 0; i <= 60; i++) {
            all.addAll(Call.each("cell(0|1|2|3, " + i + ", 0|1|2)"));
        }
        // These change something, all in the same way.
        all.addAll(Call.each("within(0)"));
        for (int lens = 0; lens < 6; lens++) {
            all.addAll(Call.each("steal(" + lens + ", 0)"));
            all.addAll(Call.each("take(2, " + lens + ", 0)"));
            all.addAll(Call.each("tear(2)"));
        }
        return all;
    }

    /** The answers behind a scene and, if it is not null, one more call. */
    static long[] of(Scene scene, Call more) {
        int most = MOST_CALLS - scene.length() - 1;
        long[] answers = new long[QUESTIONS.size()];
        for (int from = 0; from < answers.length; from += most) {
            PicturePapers x = scene.made();
            if (more != null) {
                more.on(x);
            }
            for (int k = from; k < answers.length && k < from + most; k++) {
                answers[k] = QUESTIONS.get(k).on(x);
            }
        }
        return answers;
    }

    static String question(int k) {
        return QUESTIONS.get(k).toString();
    }
}
