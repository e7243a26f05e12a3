import java.util.Arrays;

/** Small pictures with papers: who took one, what was done to one, and what of it still holds. */
public final class PicturePapers {
    public static final int UNKNOWN = -1, OUTSIDE = -2, STATE = -3, FULL = -4, NONE = -9;
    public static final long LOST = Long.MIN_VALUE;

    private static final int NULL_FAULT = 1, CAST_FAULT = 2, INDEX_FAULT = 3, SIZE_FAULT = 4;
    private static final int BYTES = 0, SHORTS = 1, INTS = 2;
    private static final int TAKEN = 0, CHANGED = 1, SILENT = 2;
    private static final int WHOLE = 0, UNTOLD = 1, BROKEN_SEAL = 2, STOLEN_KEY = 3, PLAYS_OTHERWISE = 4;
    private static final int CANNOT = -20, OTHER_SIZE = -21, FIRST_FAULT = -100;

    private static final int MOST_PICTURES = 12, MOST_LENSES = 6, MOST_LOOKS = 9;
    private static final int SHEETS = 4, MOST_CELLS = 60;
    private static final int SIDE = 4, PLACES = 16, TREE_LEVELS = 4;
    private static final int BRIGHTEST = 99, NO_SQUARE = -1;
    private static final int PRIME = 9973, HOURS = 1000, NOT_STOLEN = 1000;
    private static final int MOST_WITHIN = 20, MARK_BITS = 8, MOST_COARSE = 24;
    private static final int MOST_LOOK_HOURS = 9, MOST_WORTH = 99, MOST_HOURS_AT_ALL = 99;

    private static final char CUT = 'c', BLUR = 'b', TURN = 't', LIGHTER = 'l', DARKER = 'm', WORSE = 'q';
    private static final int MOST_ACTS = 5, ACT_STEP = 10000, TEXT_IS_WHOLE = -1;
    private static final int[] NO_ACTS = {};

    private final Picture[] pictures = new Picture[MOST_PICTURES];
    private final Lens[] lenses = new Lens[MOST_LENSES];
    private final Look[] looks = new Look[MOST_LOOKS];
    private final Sheet[] sheets = new Sheet[SHEETS];
    private final Tree tree = new Tree();
    private final Reader reader = new Reader();
    private final Workshop workshop = new Workshop();
    private final Trace trace = new Trace();
    private int pictureCount;
    private int lensCount;
    private int lookCount;
    private int within;
    private int fault;

    public PicturePapers() {
        for (int k = 0; k < SHEETS; k++) {
            sheets[k] = new Sheet();
        }
    }

    // ---- 1 pictures

    public int picture(int w, int h, int sheet, int lane, int i) {
        fault = 0;
        Sheet row = sheetAt(sheet);
        if (row == null) {
            return UNKNOWN;
        }
        if (!isIn(w, 1, SIDE) || !isIn(h, 1, SIDE) || !isLane(lane)) {
            return OUTSIDE;
        }
        int broken = row.faultOf(lane, i, w * h);
        if (broken != 0) {
            return failed(broken);
        }
        if (!row.holdsSquares(i, w * h)) {
            return OUTSIDE;
        }
        if (pictureCount >= MOST_PICTURES) {
            return FULL;
        }
        Picture made = addPicture();
        made.fill(w, h, row, i);
        return made.number;
    }

    public int ofPicture(int p, int what) {
        Picture asked = pictureAt(p);
        if (asked == null) {
            return UNKNOWN;
        }
        switch (what) {
            case 0: return asked.w;
            case 1: return asked.h;
            case 2: return asked.sum();
            case 3: return tree.rootOf(asked);
            default: break;
        }
        // Far below 10 the difference would wrap around.
        if (what < 10 || !asked.has(what - 10)) {
            return OUTSIDE;
        }
        return asked.squares[what - 10];
    }

    public int alter(int p, int place, int v) {
        Picture altered = pictureAt(p);
        if (altered == null || !altered.has(place)) {
            return UNKNOWN;
        }
        if (!isIn(v, 0, BRIGHTEST)) {
            return OUTSIDE;
        }
        int before = altered.squares[place];
        altered.squares[place] = v;
        return before;
    }

    // ---- 2 lines

    public int lens(int key) {
        if (!isIn(key, 1, PRIME - 1)) {
            return OUTSIDE;
        }
        if (lensCount >= MOST_LENSES) {
            return FULL;
        }
        lenses[lensCount] = new Lens(lensCount, key);
        return lensCount++;
    }

    public int steal(int lens, int hour) {
        Lens stolen = lensAt(lens);
        if (stolen == null) {
            return UNKNOWN;
        }
        if (!isIn(hour, 0, NOT_STOLEN)) {
            return OUTSIDE;
        }
        int before = stolen.stolenFrom;
        stolen.stolenFrom = hour;
        return before;
    }

    public int take(int p, int lens, int hour) {
        Picture taken = pictureAt(p);
        Lens by = lensAt(lens);
        if (taken == null || by == null) {
            return UNKNOWN;
        }
        if (!isHour(hour)) {
            return OUTSIDE;
        }
        if (taken.paper != null) {
            return STATE;
        }
        taken.paper = new Taken(by, hour, sealOf(taken, by, hour));
        return taken.paper.seal;
    }

    public int hush(int p, int from, int lens, int hour) {
        Picture hushed = pictureAt(p);
        Picture origin = pictureAt(from);
        Lens by = lensAt(lens);
        if (hushed == null || origin == null || by == null) {
            return UNKNOWN;
        }
        if (!isHour(hour)) {
            return OUTSIDE;
        }
        if (hushed.paper != null || from >= p) {
            return STATE;
        }
        hushed.paper = new Silent(by, hour, sealOf(hushed, by, hour), origin);
        return hushed.paper.seal;
    }

    public int change(int p, int from, int lens, int hour, int sheet, int lane, int i, int n) {
        fault = 0;
        Picture changed = pictureAt(p);
        Picture origin = pictureAt(from);
        Lens by = lensAt(lens);
        Sheet row = sheetAt(sheet);
        if (changed == null || origin == null || by == null || row == null) {
            return UNKNOWN;
        }
        if (!isHour(hour) || !isLane(lane)) {
            return OUTSIDE;
        }
        int unread = readActs(row, lane, i, n);
        if (unread != 0) {
            return unread;
        }
        if (changed.paper != null || from >= p) {
            return STATE;
        }
        changed.paper = new Changed(by, hour, sealOf(changed, by, hour), origin, reader.keptActs());
        return changed.paper.seal;
    }

    public int act(int from, int sheet, int lane, int i, int n) {
        fault = 0;
        Picture origin = pictureAt(from);
        Sheet row = sheetAt(sheet);
        if (origin == null || row == null) {
            return UNKNOWN;
        }
        if (!isLane(lane)) {
            return OUTSIDE;
        }
        int unread = readActs(row, lane, i, n);
        if (unread != 0) {
            return unread;
        }
        if (!workshop.perform(origin, reader.acts, reader.count)) {
            return STATE;
        }
        if (pictureCount >= MOST_PICTURES) {
            return FULL;
        }
        Picture made = addPicture();
        made.become(workshop.bench);
        return made.number;
    }

    public int tear(int p) {
        Picture torn = pictureAt(p);
        if (torn == null) {
            return UNKNOWN;
        }
        if (torn.paper == null) {
            return 0;
        }
        torn.paper = null;
        return 1;
    }

    public int line(int p, int what) {
        Picture asked = pictureAt(p);
        if (asked == null) {
            return UNKNOWN;
        }
        if (!isIn(what, 0, 5)) {
            return OUTSIDE;
        }
        Taken paper = asked.paper;
        if (paper == null) {
            return STATE;
        }
        switch (what) {
            case 0: return paper.kind();
            case 1: return paper.lens.number;
            case 2: return paper.hour;
            case 3: return paper.seal;
            case 4: return paper.origin() == null ? NONE : paper.origin().number;
            default: return paper.acts().length;
        }
    }

    public int speaks(int p) {
        Picture asked = pictureAt(p);
        if (asked == null) {
            return UNKNOWN;
        }
        return asked.paper == null ? STATE : voiceOf(asked, asked.paper);
    }

    public int play(int p) {
        Picture asked = pictureAt(p);
        if (asked == null) {
            return UNKNOWN;
        }
        Taken paper = asked.paper;
        if (paper == null || paper.kind() != CHANGED) {
            return STATE;
        }
        return firstFarPlace(asked, paper);
    }

    public int within(int v) {
        if (!isIn(v, 0, MOST_WITHIN)) {
            return OUTSIDE;
        }
        int before = within;
        within = v;
        return before;
    }

    public int way(int p, int k) {
        Picture first = pictureAt(p);
        if (first == null || !isIn(k, -1, MOST_PICTURES - 1)) {
            return UNKNOWN;
        }
        int passed = 0;
        for (Picture at = first; at != null; at = at.origin()) {
            if (passed == k) {
                return at.number;
            }
            passed++;
        }
        return k == -1 ? passed : NONE;
    }

    public int doubt(int p) {
        Picture asked = pictureAt(p);
        return asked == null ? UNKNOWN : firstDoubt(asked);
    }

    public int whole(int p) {
        Picture asked = pictureAt(p);
        if (asked == null) {
            return UNKNOWN;
        }
        if (firstDoubt(asked) != NONE) {
            return 0;
        }
        for (Picture at = asked; at != null; at = at.origin()) {
            if (at.paper != null && at.paper.kind() == SILENT) {
                return 0;
            }
        }
        return 1;
    }

    public int proof(int p, int place, int k) {
        Picture asked = pictureAt(p);
        if (asked == null || !isPlace(place) || !isIn(k, 0, TREE_LEVELS - 1)) {
            return UNKNOWN;
        }
        tree.rootOf(asked);
        return tree.beside(place, k);
    }

    public int proves(int place, int v, int root, int sheet, int lane, int i) {
        fault = 0;
        Sheet row = sheetAt(sheet);
        if (row == null || !isPlace(place)) {
            return UNKNOWN;
        }
        if (!isIn(v, NO_SQUARE, BRIGHTEST) || !isLane(lane)) {
            return OUTSIDE;
        }
        int broken = row.faultOf(lane, i, TREE_LEVELS);
        if (broken != 0) {
            return failed(broken);
        }
        int below = v + 1;
        for (int level = 0; level < TREE_LEVELS; level++) {
            int beside = row.at(i + level);
            if (!isIn(beside, 0, PRIME - 1)) {
                return 0;
            }
            boolean isLeft = (place >> level & 1) == 0;
            below = isLeft ? Tree.above(below, beside) : Tree.above(beside, below);
        }
        return below == root ? 1 : 0;
    }

    // ---- 3 torn off, found again

    public int hide(int p, int mark) {
        Picture asked = pictureAt(p);
        if (asked == null) {
            return UNKNOWN;
        }
        return isMark(mark) ? asked.imprint(mark) : OUTSIDE;
    }

    public int found(int p, int mark) {
        Picture asked = pictureAt(p);
        if (asked == null) {
            return UNKNOWN;
        }
        return isMark(mark) ? asked.agreement(mark) : OUTSIDE;
    }

    public long falsely(int p, int mark, int which) {
        Picture asked = pictureAt(p);
        if (asked == null || !isMark(mark) || !isIn(which, 0, 1)) {
            return LOST;
        }
        int bits = Math.min(MARK_BITS, asked.w * asked.h);
        long upper = waysOfAtLeast(asked.agreement(mark), bits);
        long lower = 1L << bits;
        // The lower number is a power of two: halving both is all that can shorten the share.
        for (int k = 0; k < bits && upper % 2 == 0 && lower % 2 == 0; k++) {
            upper /= 2;
            lower /= 2;
        }
        return which == 0 ? upper : lower;
    }

    public int like(int p, int q) {
        Picture one = pictureAt(p);
        Picture other = pictureAt(q);
        return one == null || other == null ? UNKNOWN : likeness(one, other);
    }

    public int nearest(int p, int k) {
        Picture asked = pictureAt(p);
        if (asked == null || !isIn(k, 0, MOST_PICTURES - 2)) {
            return UNKNOWN;
        }
        for (int q = 0; q < pictureCount; q++) {
            if (q != p && countNearer(asked, pictures[q]) == k) {
                return q;
            }
        }
        return NONE;
    }

    public int coarse(int p, int c) {
        Picture asked = pictureAt(p);
        if (asked == null) {
            return UNKNOWN;
        }
        if (!isIn(c, 1, MOST_COARSE)) {
            return OUTSIDE;
        }
        return asked.paper == null ? STATE : asked.paper.hour / c * c;
    }

    public int look(int p, int hours, int worth) {
        Picture seen = pictureAt(p);
        if (seen == null) {
            return UNKNOWN;
        }
        if (!isIn(hours, 1, MOST_LOOK_HOURS) || !isIn(worth, 0, MOST_WORTH)) {
            return OUTSIDE;
        }
        if (lookCount >= MOST_LOOKS) {
            return FULL;
        }
        looks[lookCount] = new Look(seen, hours, worth);
        return lookCount++;
    }

    public int best(int hours, int what) {
        if (!isIn(hours, 0, MOST_HOURS_AT_ALL) || !isIn(what, 0, 2)) {
            return OUTSIDE;
        }
        int bestSet = 0;
        int bestWorth = 0;
        int bestHours = 0;
        // Sets come in the order of their numbers, so a later one must be better, not as good.
        for (int set = 1; set < 1 << lookCount; set++) {
            int setHours = hoursOf(set);
            int setWorth = worthOf(set);
            boolean isBetter = setWorth > bestWorth || setWorth == bestWorth && setHours < bestHours;
            if (setHours <= hours && isBetter) {
                bestSet = set;
                bestWorth = setWorth;
                bestHours = setHours;
            }
        }
        return what == 0 ? bestSet : what == 1 ? bestWorth : bestHours;
    }

    public int doubtful() {
        int set = 0;
        for (int k = 0; k < lookCount; k++) {
            if (firstDoubt(looks[k].seen) != NONE) {
                set |= 1 << k;
            }
        }
        return set;
    }

    // ---- 4 sheets, parts

    public int sheet(int k, int lane, int n) {
        fault = 0;
        Sheet row = sheetAt(k);
        if (row == null) {
            return UNKNOWN;
        }
        if (!isLane(lane) || n > MOST_CELLS) {
            return OUTSIDE;
        }
        if (n < 0) {
            return failed(SIZE_FAULT);
        }
        row.renew(lane, n);
        return 1;
    }

    public int lose(int k) {
        Sheet row = sheetAt(k);
        if (row == null) {
            return UNKNOWN;
        }
        if (!row.hasRow) {
            return 0;
        }
        row.hasRow = false;
        return 1;
    }

    public int put(int k, int i, int v) {
        fault = 0;
        Sheet row = sheetAt(k);
        if (row == null) {
            return UNKNOWN;
        }
        int broken = row.faultOf(row.lane, i, 1);
        if (broken != 0) {
            return failed(broken);
        }
        row.write(i, v);
        return 1;
    }

    public long cell(int k, int i, int lane) {
        fault = 0;
        Sheet row = sheetAt(k);
        if (row == null || !isLane(lane)) {
            return LOST;
        }
        int broken = row.faultOf(lane, i, 1);
        if (broken != 0) {
            fault = broken;
            return LOST;
        }
        return row.at(i);
    }

    public int copy(int k, int i, int other, int j, int n) {
        fault = 0;
        Sheet source = sheetAt(k);
        Sheet target = sheetAt(other);
        if (source == null || target == null) {
            return UNKNOWN;
        }
        if (!source.hasRow || !target.hasRow) {
            return failed(NULL_FAULT);
        }
        if (source.lane != target.lane) {
            return failed(CAST_FAULT);
        }
        if (n < 0 || source.lacks(i, n) || target.lacks(j, n)) {
            return failed(INDEX_FAULT);
        }
        System.arraycopy(source.cells, i, target.cells, j, n);
        return n;
    }

    public int tell(int p) {
        Picture asked = pictureAt(p);
        if (asked == null) {
            return UNKNOWN;
        }
        return asked.paper == null ? STATE : asked.paper.telling(trace);
    }

    public int show(int p) {
        Picture asked = pictureAt(p);
        if (asked == null) {
            return UNKNOWN;
        }
        return asked.paper == null ? STATE : asked.paper.showing(trace);
    }

    public int as(int p, int kind) {
        fault = 0;
        Picture asked = pictureAt(p);
        if (asked == null) {
            return UNKNOWN;
        }
        if (!isIn(kind, TAKEN, SILENT)) {
            return OUTSIDE;
        }
        if (asked.paper == null) {
            return STATE;
        }
        // Each kind is one of every lesser kind, too.
        return asked.paper.kind() < kind ? failed(CAST_FAULT) : 1;
    }

    public int trace() {
        return trace.left;
    }

    public int fault() {
        return fault;
    }

    public int many(int what) {
        switch (what) {
            case 0: return pictureCount;
            case 1: return lensCount;
            case 2: return countPapers();
            case 3: return lookCount;
            default: return OUTSIDE;
        }
    }

    // ---- what several calls share

    private static boolean isIn(int v, int least, int most) {
        return v >= least && v <= most;
    }

    private static boolean isLane(int lane) {
        return isIn(lane, BYTES, INTS);
    }

    private static boolean isHour(int hour) {
        return isIn(hour, 0, HOURS - 1);
    }

    private static boolean isPlace(int place) {
        return isIn(place, 0, PLACES - 1);
    }

    private static boolean isMark(int mark) {
        return isIn(mark, 0, (1 << MARK_BITS) - 1);
    }

    private Picture pictureAt(int p) {
        return isIn(p, 0, pictureCount - 1) ? pictures[p] : null;
    }

    private Lens lensAt(int lens) {
        return isIn(lens, 0, lensCount - 1) ? lenses[lens] : null;
    }

    private Sheet sheetAt(int k) {
        return isIn(k, 0, SHEETS - 1) ? sheets[k] : null;
    }

    private int failed(int broken) {
        fault = broken;
        return -10 - broken;
    }

    /** The caller has seen that there is room for one more. */
    private Picture addPicture() {
        Picture added = new Picture(pictureCount);
        pictures[pictureCount] = added;
        pictureCount++;
        return added;
    }

    /** 0 once the reader holds the acts, else what the call has to answer. */
    private int readActs(Sheet row, int lane, int i, int n) {
        int broken = row.faultOf(lane, i, n);
        if (broken != 0) {
            return failed(broken);
        }
        int firstFault = reader.read(row, i, n);
        return firstFault == TEXT_IS_WHOLE ? 0 : FIRST_FAULT - firstFault;
    }

    private int sealOf(Picture sealed, Lens by, int hour) {
        return (tree.rootOf(sealed) * by.key + 13 * hour + 5 * sealed.w + sealed.h) % PRIME;
    }

    private int voiceOf(Picture asked, Taken paper) {
        if (paper.lens.stolenFrom <= paper.hour) {
            return STOLEN_KEY;
        }
        if (sealOf(asked, paper.lens, paper.hour) != paper.seal) {
            return BROKEN_SEAL;
        }
        if (paper.kind() == CHANGED && firstFarPlace(asked, paper) != NONE) {
            return PLAYS_OTHERWISE;
        }
        return paper.kind() == SILENT ? UNTOLD : WHOLE;
    }

    private int firstFarPlace(Picture asked, Taken paper) {
        Picture origin = paper.origin();
        if (origin == null || !workshop.perform(origin, paper.acts(), paper.acts().length)) {
            return CANNOT;
        }
        Picture played = workshop.bench;
        if (played.w != asked.w || played.h != asked.h) {
            return OTHER_SIZE;
        }
        for (int place = 0; place < PLACES; place++) {
            if (Math.abs(played.squares[place] - asked.squares[place]) > within) {
                return place;
            }
        }
        return NONE;
    }

    private int firstDoubt(Picture first) {
        for (Picture at = first; at != null; at = at.origin()) {
            if (at.paper == null || voiceOf(at, at.paper) >= BROKEN_SEAL) {
                return at.number;
            }
        }
        return NONE;
    }

    private static long waysOfAtLeast(int least, int bits) {
        long ways = 0;
        long ofJust = 1;
        for (int k = 0; k <= bits; k++) {
            if (k >= least) {
                ways += ofJust;
            }
            ofJust = ofJust * (bits - k) / (k + 1);
        }
        return ways;
    }

    private static int likeness(Picture one, Picture other) {
        return Math.abs(one.mean() - other.mean())
                + Math.abs(one.least() - other.least())
                + Math.abs(one.greatest() - other.greatest());
    }

    private int countNearer(Picture asked, Picture other) {
        int far = likeness(asked, other);
        int nearer = 0;
        for (int q = 0; q < pictureCount; q++) {
            if (q == asked.number || q == other.number) {
                continue;
            }
            int near = likeness(asked, pictures[q]);
            if (near < far || near == far && q < other.number) {
                nearer++;
            }
        }
        return nearer;
    }

    private int hoursOf(int set) {
        int hours = 0;
        for (int k = 0; k < lookCount; k++) {
            hours += (set >> k & 1) * looks[k].hours;
        }
        return hours;
    }

    private int worthOf(int set) {
        int worth = 0;
        for (int k = 0; k < lookCount; k++) {
            worth += (set >> k & 1) * looks[k].worth;
        }
        return worth;
    }

    private int countPapers() {
        int papers = 0;
        for (int p = 0; p < pictureCount; p++) {
            if (pictures[p].paper != null) {
                papers++;
            }
        }
        return papers;
    }

    /** Squares stand at their places; where there is none, NO_SQUARE does. */
    private static final class Picture {
        final int number;
        final int[] squares = new int[PLACES];
        int w;
        int h;
        Taken paper;

        Picture(int number) {
            this.number = number;
            Arrays.fill(squares, NO_SQUARE);
        }

        void fill(int width, int height, Sheet row, int from) {
            w = width;
            h = height;
            for (int k = 0; k < w * h; k++) {
                squares[k % w + SIDE * (k / w)] = row.at(from + k);
            }
        }

        void become(Picture other) {
            replace(other.w, other.h, other.squares);
        }

        void replace(int width, int height, int[] others) {
            w = width;
            h = height;
            System.arraycopy(others, 0, squares, 0, PLACES);
        }

        boolean has(int place) {
            return isPlace(place) && squares[place] != NO_SQUARE;
        }

        Picture origin() {
            return paper == null ? null : paper.origin();
        }

        int sum() {
            int sum = 0;
            for (int place = 0; place < PLACES; place++) {
                sum += Math.max(squares[place], 0);
            }
            return sum;
        }

        int mean() {
            int count = w * h;
            return count == 0 ? 0 : sum() / count;
        }

        int least() {
            int least = BRIGHTEST;
            for (int place = 0; place < PLACES; place++) {
                if (has(place)) {
                    least = Math.min(least, squares[place]);
                }
            }
            return least;
        }

        int greatest() {
            int greatest = 0;
            for (int place = 0; place < PLACES; place++) {
                greatest = Math.max(greatest, squares[place]);
            }
            return greatest;
        }

        int imprint(int mark) {
            int changed = 0;
            int bit = 0;
            for (int place = 0; place < PLACES && bit < MARK_BITS; place++) {
                if (!has(place)) {
                    continue;
                }
                if (!tellsBit(place, mark, bit)) {
                    squares[place] = squares[place] == 0 ? 1 : squares[place] - 1;
                    changed++;
                }
                bit++;
            }
            return changed;
        }

        int agreement(int mark) {
            int agreeing = 0;
            int bit = 0;
            for (int place = 0; place < PLACES && bit < MARK_BITS; place++) {
                if (!has(place)) {
                    continue;
                }
                if (tellsBit(place, mark, bit)) {
                    agreeing++;
                }
                bit++;
            }
            return agreeing;
        }

        private boolean tellsBit(int place, int mark, int bit) {
            return (squares[place] & 1) == (mark >> bit & 1);
        }
    }

    private static final class Lens {
        final int number;
        final int key;
        int stolenFrom = NOT_STOLEN;

        Lens(int number, int key) {
            this.number = number;
            this.key = key;
        }
    }

    private static final class Look {
        final Picture seen;
        final int hours;
        final int worth;

        Look(Picture seen, int hours, int worth) {
            this.seen = seen;
            this.hours = hours;
            this.worth = worth;
        }
    }

    /** One row, kept for good and cleared for each new one, so that no call makes another. */
    private static final class Sheet {
        final int[] cells = new int[MOST_CELLS];
        boolean hasRow;
        int lane;
        int length;

        void renew(int newLane, int newLength) {
            hasRow = true;
            lane = newLane;
            length = newLength;
            Arrays.fill(cells, 0);
        }

        /** The first fault of taking n cells from a place on, as a row of a lane; 0: none. */
        int faultOf(int asLane, int from, int n) {
            if (!hasRow) {
                return NULL_FAULT;
            }
            if (lane != asLane) {
                return CAST_FAULT;
            }
            if (n < 0) {
                return SIZE_FAULT;
            }
            return lacks(from, n) ? INDEX_FAULT : 0;
        }

        /** n is 0 or more; taken off the length, as a sum with it could wrap around. */
        boolean lacks(int from, int n) {
            return from < 0 || from > length - n;
        }

        boolean holdsSquares(int from, int n) {
            for (int k = 0; k < n; k++) {
                if (!isIn(at(from + k), 0, BRIGHTEST)) {
                    return false;
                }
            }
            return true;
        }

        int at(int i) {
            return isIn(i, 0, length - 1) ? cells[i] : 0;
        }

        void write(int i, int v) {
            if (isIn(i, 0, length - 1)) {
                cells[i] = lane == BYTES ? (byte) v : lane == SHORTS ? (short) v : v;
            }
        }
    }

    /** Node 1 is the root, nodes 2 k and 2 k + 1 are below node k, the leaves are the last ones. */
    private static final class Tree {
        private final int[] nodes = new int[2 * PLACES];

        static int above(int left, int right) {
            return (31 * left + 17 * right + 5) % PRIME;
        }

        int rootOf(Picture shown) {
            for (int place = 0; place < PLACES; place++) {
                nodes[PLACES + place] = shown.squares[place] + 1;
            }
            for (int k = PLACES - 1; k >= 1; k--) {
                nodes[k] = above(nodes[2 * k], nodes[2 * k + 1]);
            }
            return nodes[1];
        }

        /** Of the tree last grown; the place and the level are as a proof's. */
        int beside(int place, int level) {
            return nodes[(PLACES + place >> level) ^ 1];
        }
    }

    /** Reads acts; each becomes one number: its code times ACT_STEP, and its digits or number. */
    private static final class Reader {
        final int[] acts = new int[MOST_ACTS];
        int count;
        private final int[] codes = new int[MOST_CELLS];
        private int length;
        private int at;
        private int number;

        int[] keptActs() {
            return Arrays.copyOf(acts, count);
        }

        /** The first fault, or TEXT_IS_WHOLE; the caller has seen that the row has these cells. */
        int read(Sheet row, int from, int n) {
            System.arraycopy(row.cells, from, codes, 0, n);
            length = n;
            at = 0;
            count = 0;
            while (count < MOST_ACTS) {
                int kind = code();
                if (!isKind(kind)) {
                    return at;
                }
                at++;
                if (!readNumber(kind)) {
                    return at;
                }
                acts[count] = kind * ACT_STEP + number;
                count++;
                if (at >= length) {
                    return TEXT_IS_WHOLE;
                }
                if (code() != ';' || count >= MOST_ACTS) {
                    return at;
                }
                at++;
            }
            return at;
        }

        /** 0, which no text has, behind the end: so an early end is found where a wrong code would be. */
        private int code() {
            return at < length ? codes[at] : 0;
        }

        private static boolean isKind(int code) {
            return code == CUT || code == BLUR || code == TURN
                    || code == LIGHTER || code == DARKER || code == WORSE;
        }

        /** If it can't be read, the reader is left standing at the fault. */
        private boolean readNumber(int kind) {
            number = 0;
            switch (kind) {
                case CUT:
                case BLUR:
                    return readDigits(4) == 4;
                case WORSE:
                    return code() >= '2' && readDigits(1) == 1;
                case LIGHTER:
                case DARKER:
                    return readShift();
                default:
                    return true;
            }
        }

        private boolean readShift() {
            int digits = readDigits(2);
            if (number == 0) {
                at -= digits;
            }
            return number > 0;
        }

        private int readDigits(int most) {
            int digits = 0;
            while (digits < most && code() >= '0' && code() <= '9') {
                number = 10 * number + code() - '0';
                at++;
                digits++;
            }
            return digits;
        }
    }

    /** Does acts on a picture of its own, so that what they are played on stays as it is. */
    private static final class Workshop {
        final Picture bench = new Picture(NONE);
        private final int[] spare = new int[PLACES];

        /** Whether all of them can be done. */
        boolean perform(Picture origin, int[] acts, int count) {
            bench.become(origin);
            for (int k = 0; k < count && k < acts.length; k++) {
                if (!performOne(acts[k] / ACT_STEP, acts[k] % ACT_STEP)) {
                    return false;
                }
            }
            return true;
        }

        private boolean performOne(int kind, int number) {
            int x = number / 1000;
            int y = number / 100 % 10;
            int w = number / 10 % 10;
            int h = number % 10;
            if ((kind == CUT || kind == BLUR) && !holds(x, y, w, h)) {
                return false;
            }
            switch (kind) {
                case CUT:
                    cutToSpare(x, y, w, h);
                    bench.replace(w, h, spare);
                    break;
                case TURN:
                    turnToSpare();
                    bench.replace(bench.h, bench.w, spare);
                    break;
                case BLUR: blur(x, y, w, h); break;
                case LIGHTER: shift(number); break;
                case DARKER: shift(-number); break;
                default: saveWorse(number); break;
            }
            return true;
        }

        private boolean holds(int x, int y, int w, int h) {
            return w >= 1 && h >= 1 && x + w <= bench.w && y + h <= bench.h;
        }

        private void cutToSpare(int x, int y, int w, int h) {
            Arrays.fill(spare, NO_SQUARE);
            for (int down = 0; down < h; down++) {
                for (int across = 0; across < w; across++) {
                    spare[across + SIDE * down] = bench.squares[x + across + SIDE * (y + down)];
                }
            }
        }

        private void blur(int x, int y, int w, int h) {
            int sum = 0;
            for (int down = 0; down < h; down++) {
                for (int across = 0; across < w; across++) {
                    sum += bench.squares[x + across + SIDE * (y + down)];
                }
            }
            for (int down = 0; down < h; down++) {
                for (int across = 0; across < w; across++) {
                    bench.squares[x + across + SIDE * (y + down)] = sum / (w * h);
                }
            }
        }

        private void turnToSpare() {
            Arrays.fill(spare, NO_SQUARE);
            for (int x = 0; x < bench.h; x++) {
                for (int y = 0; y < bench.w; y++) {
                    spare[x + SIDE * y] = bench.squares[y + SIDE * (bench.h - 1 - x)];
                }
            }
        }

        private void shift(int by) {
            for (int place = 0; place < PLACES; place++) {
                if (bench.squares[place] != NO_SQUARE) {
                    bench.squares[place] = Math.max(0, Math.min(BRIGHTEST, bench.squares[place] + by));
                }
            }
        }

        private void saveWorse(int step) {
            for (int place = 0; place < PLACES && step > 0; place++) {
                if (bench.squares[place] != NO_SQUARE) {
                    bench.squares[place] = bench.squares[place] / step * step;
                }
            }
        }
    }

    private static final class Trace {
        int left;

        void leave(int number) {
            left = 31 * left + number;
        }
    }

    private static class Taken {
        final Lens lens;
        final int hour;
        final int seal;

        Taken(Lens lens, int hour, int seal) {
            this.lens = lens;
            this.hour = hour;
            this.seal = seal;
        }

        int kind() {
            return TAKEN;
        }

        /** What it comes from; of a lesser number, so every way has an end. */
        Picture origin() {
            return null;
        }

        int[] acts() {
            return NO_ACTS;
        }

        int telling(Trace trace) {
            return takenTelling(trace);
        }

        /** By a name of its own, as a silent one reaches over the changed one's body to it. */
        final int takenTelling(Trace trace) {
            trace.leave(1);
            return hour;
        }

        int showing(Trace trace) {
            trace.leave(4);
            return seal;
        }
    }

    private static class Changed extends Taken {
        private final Picture origin;
        private final int[] acts;

        Changed(Lens lens, int hour, int seal, Picture origin, int[] acts) {
            super(lens, hour, seal);
            this.origin = origin;
            this.acts = acts;
        }

        int kind() {
            return CHANGED;
        }

        Picture origin() {
            return origin;
        }

        int[] acts() {
            return acts;
        }

        int telling(Trace trace) {
            trace.leave(2);
            return super.telling(trace) + 1000;
        }
    }

    private static final class Silent extends Changed {
        Silent(Lens lens, int hour, int seal, Picture origin) {
            super(lens, hour, seal, origin, NO_ACTS);
        }

        int kind() {
            return SILENT;
        }

        int telling(Trace trace) {
            trace.leave(3);
            return super.telling(trace) + takenTelling(trace);
        }

        int showing(Trace trace) {
            trace.leave(5);
            return 33;
        }
    }
}
