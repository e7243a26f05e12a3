import java.lang.reflect.Method;
import java.util.ArrayList;
import java.util.Arrays;
import java.util.Comparator;
import java.util.List;
import java.util.Random;

/** Runs of calls by a seeded source, each answer held against the plain model's. */
public final class PlainModelTest {
    private static final int RUNS = 3000, CALLS = 512, MOST_TOLD = 5;
    private static final String ITEMS = "cbtlmq";

    /** What each argument of a call is. */
    private static final String[] CALLS_WITH_ARGUMENTS = {
        "picture side side sheet lane index", "ofPicture picture ofPicture", "alter picture place square",
        "lens key", "steal lens hour", "take picture lens hour", "hush picture picture lens hour",
        "change picture picture lens hour sheet lane index n", "act picture sheet lane index n",
        "tear picture", "line picture what", "speaks picture", "play picture", "within within",
        "way picture k", "doubt picture", "whole picture", "proof picture place k",
        "proves place square root sheet lane index", "hide picture mark", "found picture mark",
        "falsely picture mark which", "like picture picture", "nearest picture k", "coarse picture coarse",
        "look picture hours worth", "best allHours which", "doubtful", "sheet sheet lane n", "lose sheet",
        "put sheet index cell", "cell sheet index lane", "copy sheet index sheet index n", "tell picture",
        "show picture", "as picture which", "trace", "fault", "many which",
    };

    private final Check check = new Check();
    private final Random random;
    private final PicturePapers x = new PicturePapers();
    private final PlainModel model = new PlainModel();
    private final List<String> told = new ArrayList<>();
    private final int[] lanes = new int[4];
    private int calls;

    private PlainModelTest(long seed) {
        random = new Random(seed);
        check.about("run " + seed);
    }

    public static void main(String[] args) throws Exception {
        int wrong = 0;
        for (int seed = 0; seed < RUNS && wrong < MOST_TOLD; seed++) {
            PlainModelTest run = new PlainModelTest(seed);
            run.go();
            wrong += run.check.wrong();
        }
        System.out.println(RUNS + " runs, " + wrong + " not as due");
        if (wrong != 0) {
            System.exit(1);
        }
    }

    private void go() throws Exception {
        int bold = random.nextInt(4) == 0 ? 3 : 25;
        for (int k = 0; k < 3; k++) {
            drawPicture();
            call("lens", 1 + random.nextInt(9972));
        }
        while (calls < CALLS && check.wrong() == 0) {
            int which = random.nextInt(12);
            if (which == 0) {
                drawPicture();
            } else if (which <= 2) {
                actAndChange();
            } else if (which == 3) {
                provePlace();
            } else {
                anyCall(bold);
            }
        }
        if (check.wrong() != 0) {
            System.out.println(String.join("; ", told));
        }
    }

    private void anyCall(int bold) throws Exception {
        String[] parts = CALLS_WITH_ARGUMENTS[random.nextInt(CALLS_WITH_ARGUMENTS.length)].split(" ");
        int[] a = new int[parts.length - 1];
        int sheet = random.nextInt(4);
        for (int i = 0; i < a.length; i++) {
            a[i] = random.nextInt(bold) == 0 ? edge() : fitting(parts[i + 1], sheet);
        }
        call(parts[0], a);
    }

    private int edge() {
        int[] edges = {-1, -2, 0, 1, 2, 3, 4, 5, 6, 8, 9, 10, 11, 12, 15, 16, 20, 21, 24, 25, 60, 61, 99, 100, 255, 256,
            999, 1000, 1001, 9972, 9973, Integer.MAX_VALUE, Integer.MIN_VALUE, Integer.MAX_VALUE - 3, 65535 + 117};
        return edges[random.nextInt(edges.length)];
    }

    private int fitting(String what, int sheet) {
        switch (what) {
            case "side": return 1 + random.nextInt(4);
            case "sheet": return random.nextInt(3) == 0 ? random.nextInt(4) : sheet;
            case "lane": return random.nextInt(4) == 0 ? random.nextInt(3) : lanes[sheet];
            case "index": return random.nextInt(8);
            case "n": return random.nextInt(3) == 0 ? random.nextInt(60) : random.nextInt(8);
            case "picture": return random.nextInt(12);
            case "ofPicture": return random.nextInt(26);
            case "place": return random.nextInt(16);
            case "square": return random.nextInt(101) - 1;
            case "root": return random.nextInt(9973);
            case "key": return 1 + random.nextInt(9972);
            case "lens": return random.nextInt(4);
            case "hour": return random.nextInt(3) == 0 ? random.nextInt(1001) : 495 + random.nextInt(10);
            case "within": return random.nextInt(21);
            case "what": return random.nextInt(6);
            case "which": return random.nextInt(4);
            case "k": return random.nextInt(6) - 1;
            case "mark": return random.nextInt(256);
            case "coarse": return 1 + random.nextInt(24);
            case "hours": return 1 + random.nextInt(9);
            case "worth": return random.nextInt(10) * 10;
            case "allHours": return random.nextInt(50);
            case "cell": return random.nextInt();
            default: throw new IllegalStateException(what);
        }
    }

    private void drawPicture() throws Exception {
        int w = 1 + random.nextInt(4);
        int h = 1 + random.nextInt(4);
        int sheet = random.nextInt(4);
        int i = random.nextInt(3);
        int lane = random.nextInt(3);
        call("sheet", sheet, lane, i + w * h);
        for (int k = 0; k < w * h; k++) {
            call("put", sheet, i + k, random.nextInt(4) == 0 ? random.nextInt(2) * 99 : random.nextInt(100));
        }
        call("picture", w, h, sheet, lane, i);
    }

    private void actAndChange() throws Exception {
        String text = text();
        int sheet = random.nextInt(4);
        int lane = random.nextInt(3);
        int i = random.nextInt(3);
        call("sheet", sheet, lane, i + text.length());
        for (int k = 0; k < text.length(); k++) {
            call("put", sheet, i + k, text.charAt(k));
        }
        int from = random.nextInt(8);
        call("act", from, sheet, lane, i, text.length());
        int last = (int) call("many", 0) - 1;
        int p = random.nextInt(3) == 0 ? random.nextInt(12) : last;
        int hour = random.nextInt(1000);
        call("change", p, from, random.nextInt(3), hour, sheet, lane, i, text.length());
        call("speaks", p);
        call("play", p);
        call("doubt", p);
        call("whole", p);
    }

    private String text() {
        StringBuilder text = new StringBuilder();
        int items = 1 + random.nextInt(random.nextInt(5) == 0 ? 6 : 3);
        for (int k = 0; k < items; k++) {
            if (k > 0) {
                text.append(';');
            }
            item(text);
        }
        if (random.nextInt(5) == 0) {
            int at = random.nextInt(text.length());
            String other = ITEMS + "0123456789;;x:/ ";
            text.setCharAt(at, other.charAt(random.nextInt(other.length())));
        }
        if (random.nextInt(8) == 0) {
            text.setLength(random.nextInt(text.length() + 1));
        }
        return text.toString();
    }

    private void item(StringBuilder text) {
        char kind = ITEMS.charAt(random.nextInt(ITEMS.length()));
        text.append(kind);
        switch (kind) {
            case 'c':
            case 'b':
                text.append(random.nextInt(2)).append(random.nextInt(2));
                text.append(random.nextInt(4)).append(random.nextInt(4));
                break;
            case 'l':
            case 'm':
                text.append(random.nextInt(random.nextBoolean() ? 10 : 105));
                break;
            case 'q':
                text.append(random.nextInt(8) == 0 ? random.nextInt(2) : 2 + random.nextInt(8));
                break;
            default:
                break;
        }
    }

    private void provePlace() throws Exception {
        int p = random.nextInt(3);
        int place = random.nextInt(16);
        int sheet = random.nextInt(4);
        int i = random.nextInt(3);
        int lane = 1 + random.nextInt(2);
        call("sheet", sheet, lane, i + 4);
        for (int k = 0; k < 4; k++) {
            call("put", sheet, i + k, (int) call("proof", p, place, k));
        }
        int v = (int) call("ofPicture", p, 10 + place);
        int root = (int) call("ofPicture", p, 3);
        call("proves", place, v == -2 ? -1 : v, root, sheet, lane, i);
    }

    private long call(String name, int... a) throws Exception {
        calls++;
        Object[] boxed = Arrays.stream(a).boxed().toArray();
        long want = model.call(name, a);
        long got = ((Number) method(name).invoke(x, boxed)).longValue();
        String told = name + Arrays.toString(a);
        this.told.add(told + " = " + got);
        check.due(got, want, told);
        check.due(x.fault(), model.call("fault", new int[0]), "fault() behind " + told);
        check.due(x.trace(), model.call("trace", new int[0]), "trace() behind " + told);
        if (name.equals("sheet") && got == 1) {
            lanes[a[0]] = a[1];
        }
        return got;
    }

    private static final Method[] METHODS = methods();

    private static Method[] methods() {
        Method[] all = PicturePapers.class.getDeclaredMethods();
        Arrays.sort(all, Comparator.comparing(Method::getName));
        return all;
    }

    private static Method method(String name) {
        for (Method method : METHODS) {
            if (method.getName().equals(name)) {
                return method;
            }
        }
        throw new IllegalStateException(name);
    }
}
