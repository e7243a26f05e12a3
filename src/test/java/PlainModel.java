import java.math.BigInteger;
import java.util.ArrayList;
import java.util.Arrays;
import java.util.Comparator;
import java.util.List;
import java.util.Objects;
import java.util.regex.Matcher;
import java.util.regex.Pattern;

/**
 * The document once more, with all of Java: rows are arrays of their lane, faults are what the
 * machine throws, lines are classes, texts a pattern, shares big numbers. Refusals are thrown, too.
 */
final class PlainModel {
    private static final Pattern TEXT = Pattern.compile(
            "(?:[cb][0-9]{4}|t|[lm](?:0[1-9]|[1-9][0-9]?)|q[2-9])"
            + "(?:;(?:[cb][0-9]{4}|t|[lm](?:0[1-9]|[1-9][0-9]?)|q[2-9])){0,4}");

    static final class Refusal extends RuntimeException {
        final int answer;

        Refusal(int answer) {
            super(null, null, false, false);
            this.answer = answer;
        }
    }

    interface Shown {
        int seal();

        default int shown(PlainModel x) {
            x.leave(4);
            return seal();
        }
    }

    static class Taken implements Shown {
        int lens;
        int hour;
        int seal;

        public int seal() {
            return seal;
        }

        int told(PlainModel x) {
            return hourTold(x);
        }

        final int hourTold(PlainModel x) {
            x.leave(1);
            return hour;
        }
    }

    static class Changed extends Taken {
        int from;
        String text = "";

        int told(PlainModel x) {
            x.leave(2);
            return super.told(x) + 1000;
        }
    }

    static final class Silent extends Changed {
        int told(PlainModel x) {
            x.leave(3);
            return super.told(x) + hourTold(x);
        }

        public int shown(PlainModel x) {
            x.leave(5);
            return 33;
        }
    }

    /** Columns of rows: at[x][y]. */
    static final class Pic {
        int[][] at;
        Taken line;

        Pic(int[][] at) {
            this.at = at;
        }

        int w() {
            return at.length;
        }

        int h() {
            return at[0].length;
        }

        int[] rowByRow() {
            int[] all = new int[w() * h()];
            for (int k = 0; k < all.length; k++) {
                all[k] = at[k % w()][k / w()];
            }
            return all;
        }

        int leaf(int place) {
            int x = place % 4;
            int y = place / 4;
            return x < w() && y < h() ? at[x][y] + 1 : 0;
        }
    }

    private final List<Pic> pics = new ArrayList<>();
    private final List<int[]> lenses = new ArrayList<>();
    private final List<int[]> looks = new ArrayList<>();
    private final Object[] sheets = new Object[4];
    private int within;
    private int trace;
    private int fault;

    private void leave(int number) {
        trace = 31 * trace + number;
    }

    private static void need(boolean is, int refusal) {
        if (!is) {
            throw new Refusal(refusal);
        }
    }

    private static boolean in(int v, int a, int b) {
        return a <= v && v <= b;
    }

    private Pic pic(int p) {
        need(in(p, 0, pics.size() - 1), -1);
        return pics.get(p);
    }

    private int[] key(int lens) {
        need(in(lens, 0, lenses.size() - 1), -1);
        return lenses.get(lens);
    }

    private Taken paper(Pic pic) {
        need(pic.line != null, -3);
        return pic.line;
    }

    /** Runs one call by name; a call that names faults leaves one, or 0. */
    long call(String name, int[] a) {
        boolean namesFaults = List.of("picture", "change", "act", "proves", "sheet", "put", "cell", "copy", "as")
                .contains(name);
        boolean isLong = name.equals("cell") || name.equals("falsely");
        int met = 0;
        long answer;
        try {
            answer = answer(name, a);
        } catch (Refusal refusal) {
            answer = isLong ? Long.MIN_VALUE : refusal.answer;
        } catch (NullPointerException e) {
            met = 1;
            answer = isLong ? Long.MIN_VALUE : -11;
        } catch (ClassCastException | ArrayStoreException e) {
            met = 2;
            answer = isLong ? Long.MIN_VALUE : -12;
        } catch (IndexOutOfBoundsException e) {
            met = 3;
            answer = isLong ? Long.MIN_VALUE : -13;
        } catch (NegativeArraySizeException e) {
            met = 4;
            answer = isLong ? Long.MIN_VALUE : -14;
        }
        if (namesFaults) {
            fault = met;
        } else if (met != 0) {
            throw new IllegalStateException(name + " names no fault");
        }
        return answer;
    }

    private long answer(String name, int[] a) {
        switch (name) {
            case "picture": return picture(a[0], a[1], a[2], a[3], a[4]);
            case "ofPicture": return ofPicture(a[0], a[1]);
            case "alter": return alter(a[0], a[1], a[2]);
            case "lens": return lens(a[0]);
            case "steal": return steal(a[0], a[1]);
            case "take": return take(a[0], a[1], a[2]);
            case "hush": return hush(a[0], a[1], a[2], a[3]);
            case "change": return change(a);
            case "act": return act(a[0], a[1], a[2], a[3], a[4]);
            case "tear": return tear(a[0]);
            case "line": return line(a[0], a[1]);
            case "speaks": return speaks(pic(a[0]));
            case "play": return play(a[0]);
            case "within": return within(a[0]);
            case "way": return way(a[0], a[1]);
            case "doubt": return doubt(a[0]);
            case "whole": return whole(a[0]);
            case "proof": return proof(a[0], a[1], a[2]);
            case "proves": return proves(a[0], a[1], a[2], a[3], a[4], a[5]);
            case "hide": return hide(a[0], a[1]);
            case "found": return found(a[0], a[1]);
            case "falsely": return falsely(a[0], a[1], a[2]);
            case "like": return like(pic(a[0]), pic(a[1]));
            case "nearest": return nearest(a[0], a[1]);
            case "coarse": return coarse(a[0], a[1]);
            case "look": return look(a[0], a[1], a[2]);
            case "best": return best(a[0], a[1]);
            case "doubtful": return doubtful();
            case "sheet": return sheet(a[0], a[1], a[2]);
            case "lose": return lose(a[0]);
            case "put": return put(a[0], a[1], a[2]);
            case "cell": return cell(a[0], a[1], a[2]);
            case "copy": return copy(a[0], a[1], a[2], a[3], a[4]);
            case "tell": return paper(pic(a[0])).told(this);
            case "show": return paper(pic(a[0])).shown(this);
            case "as": return as(a[0], a[1]);
            case "trace": return trace;
            case "fault": return fault;
            case "many": return many(a[0]);
            default: throw new IllegalStateException(name);
        }
    }

    // ---- cells

    private int[] cells(int sheet, int lane, int i, int n) {
        Object row = sheets[sheet];
        byte[] bytes = lane == 0 ? (byte[]) row : null;
        short[] shorts = lane == 1 ? (short[]) row : null;
        int[] ints = lane == 2 ? (int[]) row : null;
        int length = lane == 0 ? bytes.length : lane == 1 ? shorts.length : ints.length;
        // A new row of n would ask for far too much room where n is far beyond the sheet.
        int[] taken = new int[Math.min(n, length)];
        Objects.checkFromIndexSize(i, n, length);
        for (int k = 0; k < n; k++) {
            taken[k] = lane == 0 ? bytes[i + k] : lane == 1 ? shorts[i + k] : ints[i + k];
        }
        return taken;
    }

    private int sheet(int k, int lane, int n) {
        need(in(k, 0, 3), -1);
        need(in(lane, 0, 2) && n <= 60, -2);
        sheets[k] = lane == 0 ? (Object) new byte[n] : lane == 1 ? new short[n] : new int[n];
        return 1;
    }

    private int lose(int k) {
        need(in(k, 0, 3), -1);
        int had = sheets[k] == null ? 0 : 1;
        sheets[k] = null;
        return had;
    }

    private int put(int k, int i, int v) {
        need(in(k, 0, 3), -1);
        if (sheets[k] instanceof byte[] bytes) {
            bytes[i] = (byte) v;
        } else if (sheets[k] instanceof short[] shorts) {
            shorts[i] = (short) v;
        } else {
            ((int[]) sheets[k])[i] = v;
        }
        return 1;
    }

    private long cell(int k, int i, int lane) {
        need(in(k, 0, 3), -1);
        need(in(lane, 0, 2), -2);
        return cells(k, lane, i, 1)[0];
    }

    private int copy(int k, int i, int other, int j, int n) {
        need(in(k, 0, 3) && in(other, 0, 3), -1);
        System.arraycopy(sheets[k], i, sheets[other], j, n);
        return n;
    }

    // ---- pictures and acts

    private int picture(int w, int h, int sheet, int lane, int i) {
        need(in(sheet, 0, 3), -1);
        need(in(w, 1, 4) && in(h, 1, 4) && in(lane, 0, 2), -2);
        int[] squares = cells(sheet, lane, i, w * h);
        need(Arrays.stream(squares).allMatch(v -> in(v, 0, 99)), -2);
        need(pics.size() < 12, -4);
        int[][] at = new int[w][h];
        for (int k = 0; k < w * h; k++) {
            at[k % w][k / w] = squares[k];
        }
        pics.add(new Pic(at));
        return pics.size() - 1;
    }

    private int ofPicture(int p, int what) {
        Pic pic = pic(p);
        if (what == 0) {
            return pic.w();
        }
        if (what == 1) {
            return pic.h();
        }
        if (what == 2) {
            return Arrays.stream(pic.rowByRow()).sum();
        }
        if (what == 3) {
            return root(pic);
        }
        need(in(what, 10, 25) && pic.leaf(what - 10) > 0, -2);
        return pic.leaf(what - 10) - 1;
    }

    private int alter(int p, int place, int v) {
        Pic pic = pic(p);
        need(in(place, 0, 15) && pic.leaf(place) > 0, -1);
        need(in(v, 0, 99), -2);
        int was = pic.at[place % 4][place / 4];
        pic.at[place % 4][place / 4] = v;
        return was;
    }

    static int firstFault(int[] codes) {
        StringBuilder text = new StringBuilder();
        for (int code : codes) {
            text.append(in(code, 0, 65535) ? (char) code : (char) 65535);
        }
        int at = text.length();
        for (int n = 1; n <= text.length(); n++) {
            Matcher matcher = TEXT.matcher(text.substring(0, n));
            if (!matcher.matches() && !matcher.hitEnd()) {
                at = n - 1;
                break;
            }
        }
        if (at == text.length() && TEXT.matcher(text).matches()) {
            return -1;
        }
        boolean behindZero = at >= 2 && text.charAt(at - 1) == '0' && "lm".indexOf(text.charAt(at - 2)) >= 0;
        return behindZero ? at - 1 : at;
    }

    private static String text(int[] codes) {
        int fault = firstFault(codes);
        need(fault == -1, -100 - fault);
        StringBuilder text = new StringBuilder();
        for (int code : codes) {
            text.append((char) code);
        }
        return text.toString();
    }

    /** null: it cannot be done. */
    private static int[][] done(int[][] from, String text) {
        int[][] now = from;
        for (String item : text.split(";")) {
            now = doneOne(now, item.charAt(0), item.substring(1));
            if (now == null) {
                return null;
            }
        }
        return now;
    }

    private static int[][] doneOne(int[][] was, char kind, String number) {
        int w = was.length;
        int h = was[0].length;
        if (kind == 't') {
            int[][] now = new int[h][w];
            for (int x = 0; x < h; x++) {
                for (int y = 0; y < w; y++) {
                    now[x][y] = was[y][h - 1 - x];
                }
            }
            return now;
        }
        int n = Integer.parseInt(number);
        int cx = n / 1000;
        int cy = n / 100 % 10;
        int cw = n / 10 % 10;
        int ch = n % 10;
        if (kind == 'c' || kind == 'b') {
            if (cw < 1 || ch < 1 || cx + cw > w || cy + ch > h) {
                return null;
            }
        }
        if (kind == 'c') {
            int[][] now = new int[cw][];
            for (int x = 0; x < cw; x++) {
                now[x] = Arrays.copyOfRange(was[cx + x], cy, cy + ch);
            }
            return now;
        }
        int sum = 0;
        int[][] now = new int[w][h];
        for (int x = 0; x < w; x++) {
            for (int y = 0; y < h; y++) {
                int v = was[x][y];
                now[x][y] = kind == 'l' ? Math.min(99, v + n) : kind == 'm' ? Math.max(0, v - n) : kind == 'q' ? v - v % n : v;
                sum += in(x, cx, cx + cw - 1) && in(y, cy, cy + ch - 1) ? v : 0;
            }
        }
        for (int x = cx; kind == 'b' && x < cx + cw; x++) {
            Arrays.fill(now[x], cy, cy + ch, sum / (cw * ch));
        }
        return now;
    }

    private int act(int from, int sheet, int lane, int i, int n) {
        Pic pic = pic(from);
        need(in(sheet, 0, 3), -1);
        need(in(lane, 0, 2), -2);
        int[][] made = done(pic.at, text(cells(sheet, lane, i, n)));
        need(made != null, -3);
        need(pics.size() < 12, -4);
        int[][] own = new int[made.length][];
        for (int x = 0; x < made.length; x++) {
            own[x] = made[x].clone();
        }
        pics.add(new Pic(own));
        return pics.size() - 1;
    }

    // ---- trees, lenses, lines

    /** The numbers of a level, 0 the leaves. */
    private static List<Integer> level(Pic pic, int level) {
        List<Integer> numbers = new ArrayList<>();
        if (level == 0) {
            for (int place = 0; place < 16; place++) {
                numbers.add(pic.leaf(place));
            }
            return numbers;
        }
        List<Integer> below = level(pic, level - 1);
        for (int k = 0; k < below.size(); k += 2) {
            numbers.add((31 * below.get(k) + 17 * below.get(k + 1) + 5) % 9973);
        }
        return numbers;
    }

    private static int root(Pic pic) {
        return level(pic, 4).get(0);
    }

    private int seal(Pic pic, int lens, int hour) {
        long sum = (long) root(pic) * lenses.get(lens)[0] + 13L * hour + 5L * pic.w() + pic.h();
        return (int) (sum % 9973);
    }

    private int lens(int key) {
        need(in(key, 1, 9972), -2);
        need(lenses.size() < 6, -4);
        lenses.add(new int[] {key, 1000});
        return lenses.size() - 1;
    }

    private int steal(int lens, int hour) {
        int[] key = key(lens);
        need(in(hour, 0, 1000), -2);
        int was = key[1];
        key[1] = hour;
        return was;
    }

    private int write(Pic pic, Taken line, int lens, int hour) {
        line.lens = lens;
        line.hour = hour;
        line.seal = seal(pic, lens, hour);
        pic.line = line;
        return line.seal;
    }

    private int take(int p, int lens, int hour) {
        Pic pic = pic(p);
        key(lens);
        need(in(hour, 0, 999), -2);
        need(pic.line == null, -3);
        return write(pic, new Taken(), lens, hour);
    }

    private int hush(int p, int from, int lens, int hour) {
        Pic pic = pic(p);
        pic(from);
        key(lens);
        need(in(hour, 0, 999), -2);
        need(pic.line == null && from < p, -3);
        Silent silent = new Silent();
        silent.from = from;
        return write(pic, silent, lens, hour);
    }

    private int change(int[] a) {
        Pic pic = pic(a[0]);
        pic(a[1]);
        key(a[2]);
        need(in(a[4], 0, 3), -1);
        need(in(a[3], 0, 999) && in(a[5], 0, 2), -2);
        String text = text(cells(a[4], a[5], a[6], a[7]));
        need(pic.line == null && a[1] < a[0], -3);
        Changed changed = new Changed();
        changed.from = a[1];
        changed.text = text;
        return write(pic, changed, a[2], a[3]);
    }

    private int tear(int p) {
        Pic pic = pic(p);
        int had = pic.line == null ? 0 : 1;
        pic.line = null;
        return had;
    }

    private static int kind(Taken line) {
        return line instanceof Silent ? 2 : line instanceof Changed ? 1 : 0;
    }

    private int line(int p, int what) {
        Pic pic = pic(p);
        need(in(what, 0, 5), -2);
        Taken line = paper(pic);
        int from = line instanceof Changed changed ? changed.from : -9;
        int acts = kind(line) == 1 ? ((Changed) line).text.split(";").length : 0;
        return new int[] {kind(line), line.lens, line.hour, line.seal, from, acts}[what];
    }

    private int play(int p) {
        Pic pic = pic(p);
        need(pic.line != null && kind(pic.line) == 1, -3);
        return played(pic);
    }

    private int played(Pic pic) {
        Changed line = (Changed) pic.line;
        int[][] made = done(pics.get(line.from).at, line.text);
        if (made == null) {
            return -20;
        }
        Pic other = new Pic(made);
        if (other.w() != pic.w() || other.h() != pic.h()) {
            return -21;
        }
        for (int place = 0; place < 16; place++) {
            if (Math.abs(other.leaf(place) - pic.leaf(place)) > within) {
                return place;
            }
        }
        return -9;
    }

    private int speaks(Pic pic) {
        Taken line = paper(pic);
        if (lenses.get(line.lens)[1] <= line.hour) {
            return 3;
        }
        if (seal(pic, line.lens, line.hour) != line.seal) {
            return 2;
        }
        if (kind(line) == 1 && played(pic) != -9) {
            return 4;
        }
        return kind(line) == 2 ? 1 : 0;
    }

    private int within(int v) {
        need(in(v, 0, 20), -2);
        int was = within;
        within = v;
        return was;
    }

    private List<Integer> wayOf(int p) {
        List<Integer> way = new ArrayList<>(List.of(p));
        if (pics.get(p).line instanceof Changed changed) {
            way.addAll(wayOf(changed.from));
        }
        return way;
    }

    private int way(int p, int k) {
        pic(p);
        need(in(k, -1, 11), -1);
        List<Integer> way = wayOf(p);
        return k == -1 ? way.size() : k < way.size() ? way.get(k) : -9;
    }

    private int doubt(int p) {
        pic(p);
        return wayOf(p).stream()
                .filter(q -> pics.get(q).line == null || speaks(pics.get(q)) > 1)
                .findFirst().orElse(-9);
    }

    private int whole(int p) {
        pic(p);
        return wayOf(p).stream().allMatch(q -> pics.get(q).line != null && speaks(pics.get(q)) == 0) ? 1 : 0;
    }

    private int proof(int p, int place, int k) {
        Pic pic = pic(p);
        need(in(place, 0, 15) && in(k, 0, 3), -1);
        return level(pic, k).get((place >> k) ^ 1);
    }

    private int proves(int place, int v, int root, int sheet, int lane, int i) {
        need(in(sheet, 0, 3) && in(place, 0, 15), -1);
        need(in(v, -1, 99) && in(lane, 0, 2), -2);
        int number = v + 1;
        int at = place;
        boolean fits = true;
        for (int beside : cells(sheet, lane, i, 4)) {
            fits &= in(beside, 0, 9972);
            long left = at % 2 == 0 ? number : beside;
            long right = at % 2 == 0 ? beside : number;
            number = (int) ((31 * left + 17 * right + 5) % 9973);
            at /= 2;
        }
        return fits && number == root ? 1 : 0;
    }

    // ---- marks, likeness, looks

    private int hide(int p, int mark) {
        Pic pic = pic(p);
        need(in(mark, 0, 255), -2);
        int changed = 0;
        for (int k = 0; k < Math.min(8, pic.w() * pic.h()); k++) {
            int x = k % pic.w();
            int y = k / pic.w();
            int v = pic.at[x][y];
            if (v % 2 != mark / (1 << k) % 2) {
                pic.at[x][y] = Math.abs(v - 1);
                changed++;
            }
        }
        return changed;
    }

    private int found(int p, int mark) {
        Pic pic = pic(p);
        need(in(mark, 0, 255), -2);
        int[] squares = pic.rowByRow();
        int found = 0;
        for (int k = 0; k < Math.min(8, squares.length); k++) {
            found += squares[k] % 2 == mark / (1 << k) % 2 ? 1 : 0;
        }
        return found;
    }

    private long falsely(int p, int mark, int which) {
        int found = found(p, mark);
        need(in(which, 0, 1), -2);
        int bits = Math.min(8, pic(p).rowByRow().length);
        int ways = 0;
        for (int way = 0; way < 1 << bits; way++) {
            ways += Integer.bitCount(way) >= found ? 1 : 0;
        }
        BigInteger upper = BigInteger.valueOf(ways);
        BigInteger lower = BigInteger.valueOf(1L << bits);
        return (which == 0 ? upper : lower).divide(upper.gcd(lower)).longValue();
    }

    private int like(Pic one, Pic other) {
        int[] a = one.rowByRow();
        int[] b = other.rowByRow();
        int means = Arrays.stream(a).sum() / a.length - Arrays.stream(b).sum() / b.length;
        int least = Arrays.stream(a).min().getAsInt() - Arrays.stream(b).min().getAsInt();
        int greatest = Arrays.stream(a).max().getAsInt() - Arrays.stream(b).max().getAsInt();
        return Math.abs(means) + Math.abs(least) + Math.abs(greatest);
    }

    private int nearest(int p, int k) {
        Pic pic = pic(p);
        need(in(k, 0, 10), -1);
        List<Integer> others = new ArrayList<>();
        for (int q = 0; q < pics.size(); q++) {
            if (q != p) {
                others.add(q);
            }
        }
        others.sort(Comparator.comparingInt(q -> like(pic, pics.get(q))));
        return k < others.size() ? others.get(k) : -9;
    }

    private int coarse(int p, int c) {
        Pic pic = pic(p);
        need(in(c, 1, 24), -2);
        return paper(pic).hour - paper(pic).hour % c;
    }

    private int look(int p, int hours, int worth) {
        pic(p);
        need(in(hours, 1, 9) && in(worth, 0, 99), -2);
        need(looks.size() < 9, -4);
        looks.add(new int[] {p, hours, worth});
        return looks.size() - 1;
    }

    private int sumOf(int set, int what) {
        int sum = 0;
        for (int k = 0; k < looks.size(); k++) {
            sum += (set & 1 << k) != 0 ? looks.get(k)[what] : 0;
        }
        return sum;
    }

    private int best(int hours, int what) {
        need(in(hours, 0, 99) && in(what, 0, 2), -2);
        List<Integer> sets = new ArrayList<>();
        for (int set = 0; set < 1 << looks.size(); set++) {
            if (sumOf(set, 1) <= hours) {
                sets.add(set);
            }
        }
        Comparator<Integer> order = Comparator.comparingInt(set -> -sumOf(set, 2));
        sets.sort(order.thenComparingInt(set -> sumOf(set, 1)).thenComparingInt(set -> set));
        int best = sets.get(0);
        return what == 0 ? best : sumOf(best, 3 - what);
    }

    private int doubtful() {
        int set = 0;
        for (int k = 0; k < looks.size(); k++) {
            set += doubt(looks.get(k)[0]) == -9 ? 0 : 1 << k;
        }
        return set;
    }

    private int as(int p, int kind) {
        Pic pic = pic(p);
        need(in(kind, 0, 2), -2);
        Taken line = paper(pic);
        Taken taken = kind == 0 ? line : kind == 1 ? (Changed) line : (Silent) line;
        return taken == null ? 0 : 1;
    }

    private int many(int what) {
        need(in(what, 0, 3), -2);
        int lines = (int) pics.stream().filter(pic -> pic.line != null).count();
        return new int[] {pics.size(), lenses.size(), lines, looks.size()}[what];
    }
}
