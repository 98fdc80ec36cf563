/**
 * A saddler's house: backs, trees settled on them, hides, benches, promises and re-fits.
 * What each call promises stands in ../shared/DOC.md; the words here are the words there.
 */
public final class SaddleHouse {
    public static final int NONE = -1, UNKNOWN = -101, OUTSIDE = -102, STATE = -103, FULL = -104;

    private static final int STATIONS = 9;
    private static final int MAX_HEIGHT = 400;
    private static final int MAX_SHIM = 20;
    private static final int MAX_DAY = 10000;
    private static final int MAX_LOAD = 2000;
    private static final int MAX_HORSES = 8;
    private static final int MAX_MEASURES = 6;
    private static final int MAX_TREES = 8;
    private static final int MAX_DAYS = 6;
    private static final int MAX_HIDES = 4;
    private static final int COLUMNS = 16;
    private static final int ROWS = 12;
    private static final int MAX_BENCHES = 3;
    private static final int MAX_HOURS = 24;
    private static final int MAX_WORK = 1000;
    private static final int MAX_PROMISE = 100000;
    private static final int MAX_SADDLES = 12;
    private static final int MAX_GUARANTEE = 2000;

    private static final int WHOLE = 0;
    private static final int FLAWED = 1;
    private static final int TAKEN = 2;

    private static final int PRESSES = 1;
    private static final int BRIDGES = 2;
    private static final int ROCKS = 3;

    private final int[] row = new int[STATIONS];
    private final Horse[] horses = new Horse[MAX_HORSES];
    private final Tree[] trees = new Tree[MAX_TREES];
    private final Hide[] hides = new Hide[MAX_HIDES];
    private final Bench[] benches = new Bench[MAX_BENCHES];
    private final Saddle[] saddles = new Saddle[MAX_SADDLES];
    private final int[] days = new int[MAX_DAYS];
    private int horseCount = 0;
    private int treeCount = 0;
    private int hideCount = 0;
    private int benchCount = 0;
    private int saddleCount = 0;
    private int dayCount = 0;
    private int cutCount = 0;
    private int workHours = 0;
    private int latestBench = NONE;
    // Both are used again by every call, for all calls of a run share one room.
    private final Seat seat = new Seat();
    private final int[] fitting = new int[MAX_HORSES * MAX_DAYS];

    public SaddleHouse() {
        for (int i = 0; i < STATIONS; i++) {
            row[i] = 100;
        }
    }

    // ---- backs

    public int horse() {
        if (horseCount >= MAX_HORSES) {
            return FULL;
        }
        horses[horseCount] = new Horse();
        horseCount++;
        return horseCount - 1;
    }

    public int height(int i, int v) {
        if (!isStation(i)) {
            return UNKNOWN;
        }
        if (v != NONE && !isWithin(v, 0, MAX_HEIGHT)) {
            return OUTSIDE;
        }
        int was = row[i];
        row[i] = v;
        return was;
    }

    public int measure(int horse, int day) {
        Horse owner = horseAt(horse);
        if (owner == null) {
            return UNKNOWN;
        }
        if (!isDay(day) || row[0] == NONE || row[STATIONS - 1] == NONE) {
            return OUTSIDE;
        }
        if (!owner.isAboveLatest(day)) {
            return STATE;
        }
        if (owner.measureCount >= MAX_MEASURES) {
            return FULL;
        }
        owner.add(new Measure(day, row));
        return owner.measureCount;
    }

    public int back(int horse, int day, int i) {
        Horse owner = horseAt(horse);
        if (owner == null || !isStation(i)) {
            return UNKNOWN;
        }
        if (!isDay(day)) {
            return OUTSIDE;
        }
        Measure back = owner.backOn(day);
        return back == null ? STATE : back.heights[i];
    }

    // ---- trees

    public int tree() {
        for (int i = 0; i < STATIONS; i++) {
            if (row[i] == NONE) {
                return OUTSIDE;
            }
        }
        if (treeCount >= MAX_TREES) {
            return FULL;
        }
        trees[treeCount] = new Tree(row);
        treeCount++;
        return treeCount - 1;
    }

    public int shim(int t, int i, int v) {
        Tree tree = treeAt(t);
        if (tree == null || !isStation(i)) {
            return UNKNOWN;
        }
        if (!isWithin(v, 0, MAX_SHIM)) {
            return OUTSIDE;
        }
        int was = tree.shims[i];
        tree.shims[i] = v;
        return was;
    }

    public int under(int t, int i) {
        Tree tree = treeAt(t);
        if (tree == null || !isStation(i)) {
            return UNKNOWN;
        }
        return tree.undersideAt(i);
    }

    // ---- fits

    public int bears(int t, int horse, int day, int load, int i) {
        Tree tree = treeAt(t);
        Horse owner = horseAt(horse);
        if (tree == null || owner == null || !isStation(i)) {
            return UNKNOWN;
        }
        if (!isDay(day) || !isLoad(load)) {
            return OUTSIDE;
        }
        Measure back = owner.backOn(day);
        if (back == null) {
            return STATE;
        }
        seat.settle(tree, back, load);
        return seat.borne[i];
    }

    public int fault(int t, int horse, int day, int load, int m, int what) {
        Tree tree = treeAt(t);
        Horse owner = horseAt(horse);
        if (tree == null || owner == null) {
            return UNKNOWN;
        }
        if (!isDay(day) || !isLoad(load) || !isLoad(m) || !isWithin(what, 0, 3)) {
            return OUTSIDE;
        }
        Measure back = owner.backOn(day);
        if (back == null) {
            return STATE;
        }
        seat.settle(tree, back, load);
        switch (what) {
            case 0:
                return seat.firstFault(m);
            case 1:
                return seat.faultPlace(m);
            case 2:
                return seat.most();
            default:
                return seat.pressedCount();
        }
    }

    public int best(int horse, int day, int load, int m) {
        Horse owner = horseAt(horse);
        if (owner == null) {
            return UNKNOWN;
        }
        if (!isDay(day) || !isLoad(load) || !isLoad(m)) {
            return OUTSIDE;
        }
        Measure back = owner.backOn(day);
        if (back == null) {
            return STATE;
        }
        int found = NONE;
        int least = MAX_LOAD + 1;
        for (int t = 0; t < treeCount; t++) {
            if (fitsOn(t, back, load, m) && seat.most() < least) {
                found = t;
                least = seat.most();
            }
        }
        return found;
    }

    // ---- shared

    public int day(int day) {
        if (!isDay(day)) {
            return OUTSIDE;
        }
        for (int k = 0; k < dayCount; k++) {
            if (days[k] == day) {
                return STATE;
            }
        }
        if (dayCount >= MAX_DAYS) {
            return FULL;
        }
        days[dayCount] = day;
        dayCount++;
        return dayCount;
    }

    public int clear() {
        int were = dayCount;
        dayCount = 0;
        return were;
    }

    public int serves(int bits, int load, int m) {
        if (!isLoad(load) || !isLoad(m)) {
            return OUTSIDE;
        }
        return servesEach(bits, listFitting(load, m)) ? 1 : 0;
    }

    public int fewest(int load, int m) {
        if (!isLoad(load) || !isLoad(m)) {
            return OUTSIDE;
        }
        int rides = listFitting(load, m);
        int found = NONE;
        int least = MAX_TREES + 1;
        // Choices come by their bits from below, so the first of as many TREES is the one to keep.
        for (int bits = 0; bits < 1 << treeCount; bits++) {
            if (Integer.bitCount(bits) < least && servesEach(bits, rides)) {
                found = bits;
                least = Integer.bitCount(bits);
            }
        }
        return found;
    }

    // ---- hides

    public int hide() {
        if (hideCount >= MAX_HIDES) {
            return FULL;
        }
        hides[hideCount] = new Hide();
        hideCount++;
        return hideCount - 1;
    }

    public int flaw(int h, int x, int y) {
        Hide hide = hideAt(h);
        if (hide == null || !isPatch(x, y)) {
            return UNKNOWN;
        }
        int place = COLUMNS * y + x;
        int was = hide.patches[place];
        if (was == TAKEN) {
            return STATE;
        }
        hide.patches[place] = FLAWED;
        return was == FLAWED ? 1 : 0;
    }

    public int cut(int h, int width, int height) {
        Hide hide = hideAt(h);
        if (hide == null) {
            return UNKNOWN;
        }
        if (!isWithin(width, 1, COLUMNS) || !isWithin(height, 1, ROWS)) {
            return OUTSIDE;
        }
        int place = hide.firstRoom(width, height);
        if (place != NONE) {
            hide.mark(place, width, height, TAKEN);
            cutCount += width * height;
        }
        return place;
    }

    public int pair(int h, int width, int height) {
        Hide hide = hideAt(h);
        if (hide == null) {
            return UNKNOWN;
        }
        if (!isWithin(width, 1, COLUMNS) || !isWithin(height, 1, ROWS)) {
            return OUTSIDE;
        }
        int first = hide.firstRoom(width, height);
        if (first == NONE) {
            return NONE;
        }
        hide.mark(first, width, height, TAKEN);
        int second = hide.firstRoom(width, height);
        if (second == NONE) {
            // A piece is only cut where all was whole, so whole is what it goes back to.
            hide.mark(first, width, height, WHOLE);
            return NONE;
        }
        hide.mark(second, width, height, TAKEN);
        cutCount += 2 * width * height;
        return first + 256 * second;
    }

    public int patch(int h, int x, int y) {
        Hide hide = hideAt(h);
        if (hide == null || !isPatch(x, y)) {
            return UNKNOWN;
        }
        return hide.patches[COLUMNS * y + x];
    }

    // ---- benches, saddles

    public int bench(int hours) {
        if (!isWithin(hours, 1, MAX_HOURS)) {
            return OUTSIDE;
        }
        if (benchCount >= MAX_BENCHES) {
            return FULL;
        }
        benches[benchCount] = new Bench(hours);
        benchCount++;
        return benchCount - 1;
    }

    public int work(int n, int day) {
        if (!isWithin(n, 1, MAX_WORK) || !isDay(day)) {
            return OUTSIDE;
        }
        int chosen = NONE;
        int least = MAX_PROMISE + 1;
        for (int b = 0; b < benchCount; b++) {
            int promise = benches[b].promiseFor(n, day);
            if (promise < least) {
                chosen = b;
                least = promise;
            }
        }
        if (chosen == NONE) {
            return STATE;
        }
        benches[chosen].freeHour = benches[chosen].endFor(n, day);
        latestBench = chosen;
        workHours += n;
        return least;
    }

    public int where() {
        return latestBench;
    }

    public int saddle(int t, int horse, int day, int d, int c) {
        Horse owner = horseAt(horse);
        if (treeAt(t) == null || owner == null) {
            return UNKNOWN;
        }
        if (!isDay(day) || !isWithin(d, 0, MAX_GUARANTEE) || !isWithin(c, 0, MAX_HEIGHT)) {
            return OUTSIDE;
        }
        if (owner.backOn(day) == null) {
            return STATE;
        }
        if (saddleCount >= MAX_SADDLES) {
            return FULL;
        }
        saddles[saddleCount] = new Saddle(t, horse, day, d, c);
        saddleCount++;
        return saddleCount - 1;
    }

    public int free(int saddle, int day) {
        Saddle sold = saddleAt(saddle);
        if (sold == null) {
            return UNKNOWN;
        }
        if (!isDay(day) || day <= sold.day) {
            return OUTSIDE;
        }
        boolean inTime = day - sold.day <= sold.guarantee;
        return inTime && changeSince(sold, day) >= sold.change ? 1 : 0;
    }

    public int changed(int saddle, int day) {
        Saddle sold = saddleAt(saddle);
        if (sold == null) {
            return UNKNOWN;
        }
        if (!isDay(day) || day <= sold.day) {
            return OUTSIDE;
        }
        return changeSince(sold, day);
    }

    // ---- what is told

    public int count(int what) {
        switch (what) {
            case 0:
                return horseCount;
            case 1:
                return treeCount;
            case 2:
                return hideCount;
            case 3:
                return benchCount;
            case 4:
                return saddleCount;
            case 5:
                return dayCount;
            case 6:
                return cutCount;
            case 7:
                return workHours;
            default:
                return OUTSIDE;
        }
    }

    public long digest() {
        long h = 131;
        for (int k = 0; k < horseCount; k++) {
            h = horses[k].mixInto(h);
        }
        for (int t = 0; t < treeCount; t++) {
            h = mixAll(mixAll(h, trees[t].heights, STATIONS), trees[t].shims, STATIONS);
        }
        for (int k = 0; k < hideCount; k++) {
            h = mixAll(h, hides[k].patches, COLUMNS * ROWS);
        }
        for (int b = 0; b < benchCount; b++) {
            h = mix(mix(h, benches[b].hours), benches[b].freeHour);
        }
        for (int s = 0; s < saddleCount; s++) {
            h = saddles[s].mixInto(h);
        }
        return mixAll(h, days, dayCount);
    }

    // ---- what is there, and what is as told

    private Horse horseAt(int n) {
        return n < 0 || n >= horseCount ? null : horses[n];
    }

    private Tree treeAt(int n) {
        return n < 0 || n >= treeCount ? null : trees[n];
    }

    private Hide hideAt(int n) {
        return n < 0 || n >= hideCount ? null : hides[n];
    }

    private Saddle saddleAt(int n) {
        return n < 0 || n >= saddleCount ? null : saddles[n];
    }

    private static boolean isWithin(int n, int least, int greatest) {
        return n >= least && n <= greatest;
    }

    private static boolean isStation(int i) {
        return isWithin(i, 0, STATIONS - 1);
    }

    private static boolean isDay(int day) {
        return isWithin(day, 0, MAX_DAY);
    }

    private static boolean isLoad(int load) {
        return isWithin(load, 1, MAX_LOAD);
    }

    private static boolean isPatch(int x, int y) {
        return isWithin(x, 0, COLUMNS - 1) && isWithin(y, 0, ROWS - 1);
    }

    // ---- what several calls share

    /** Leaves the seat as the TREE settles, so that the caller can ask it further. */
    private boolean fitsOn(int t, Measure back, int load, int m) {
        seat.settle(trees[t], back, load);
        return seat.firstFault(m) == 0;
    }

    /** Lists, for each HORSE and each DAY told on which it has a BACK, the bits of the TREES that fit: how many. */
    private int listFitting(int load, int m) {
        int listed = 0;
        for (int k = 0; k < horseCount; k++) {
            for (int d = 0; d < dayCount; d++) {
                Measure back = horses[k].backOn(days[d]);
                if (back != null) {
                    fitting[listed] = fittingBits(back, load, m);
                    listed++;
                }
            }
        }
        return listed;
    }

    private int fittingBits(Measure back, int load, int m) {
        int bits = 0;
        for (int t = 0; t < treeCount; t++) {
            if (fitsOn(t, back, load, m)) {
                bits |= 1 << t;
            }
        }
        return bits;
    }

    private boolean servesEach(int bits, int listed) {
        for (int k = 0; k < listed; k++) {
            if ((fitting[k] & bits) == 0) {
                return false;
            }
        }
        return true;
    }

    private int changeSince(Saddle sold, int day) {
        // Asked anew each time: a later MEASURE may still lie ahead of the SADDLE's DAY.
        Measure then = horses[sold.horse].backOn(sold.day);
        Measure now = horses[sold.horse].backOn(day);
        if (then == null || now == null) {
            return 0;
        }
        int most = 0;
        for (int i = 0; i < STATIONS; i++) {
            most = Math.max(most, Math.abs(now.heights[i] - then.heights[i]));
        }
        return most;
    }

    private static long mix(long h, long number) {
        return 31 * h + number;
    }

    private static long mixAll(long h, int[] numbers, int many) {
        long mixed = h;
        for (int k = 0; k < many; k++) {
            mixed = mix(mixed, numbers[k]);
        }
        return mixed;
    }

    private static final class Measure {
        private final int day;
        private final int[] heights = new int[STATIONS];

        /** The row has no GAP at its ends. */
        private Measure(int day, int[] row) {
            this.day = day;
            int ahead = 0;
            for (int i = 0; i < STATIONS; i++) {
                if (row[i] != NONE) {
                    ahead = i;
                }
                heights[i] = heightBetween(row, ahead, i, nextMeasured(row, i));
            }
        }

        private static int nextMeasured(int[] row, int from) {
            for (int i = from; i < STATIONS; i++) {
                if (row[i] != NONE) {
                    return i;
                }
            }
            return STATIONS - 1;
        }

        private static int heightBetween(int[] row, int ahead, int i, int behind) {
            if (behind <= ahead) {
                return row[ahead];
            }
            int difference = row[behind] - row[ahead];
            return row[ahead] + Math.floorDiv(difference * (i - ahead), behind - ahead);
        }
    }

    private static final class Horse {
        private final Measure[] measures = new Measure[MAX_MEASURES];
        private int measureCount = 0;

        private boolean isAboveLatest(int day) {
            return measureCount == 0 || day > measures[measureCount - 1].day;
        }

        /** The caller has seen that there is room. */
        private void add(Measure measure) {
            measures[measureCount] = measure;
            measureCount++;
        }

        private Measure backOn(int day) {
            Measure latest = null;
            for (int k = 0; k < measureCount; k++) {
                if (measures[k].day <= day) {
                    latest = measures[k];
                }
            }
            return latest;
        }

        private long mixInto(long h) {
            long mixed = mix(h, measureCount);
            for (int k = 0; k < measureCount; k++) {
                mixed = mixAll(mix(mixed, measures[k].day), measures[k].heights, STATIONS);
            }
            return mixed;
        }
    }

    private static final class Tree {
        private final int[] heights = new int[STATIONS];
        private final int[] shims = new int[STATIONS];

        private Tree(int[] row) {
            for (int i = 0; i < STATIONS; i++) {
                heights[i] = row[i];
            }
        }

        private int undersideAt(int i) {
            return heights[i] - shims[i];
        }
    }

    /** How one TREE lies on one BACK under one LOAD. */
    private static final class Seat {
        private final int[] gaps = new int[STATIONS];
        private final int[] borne = new int[STATIONS];

        private void settle(Tree tree, Measure back, int load) {
            takeGaps(tree, back);
            int depth = depthFor(load);
            for (int i = 0; i < STATIONS; i++) {
                borne[i] = Math.max(0, depth - gaps[i]);
            }
            for (int over = borneAt(depth) - load; over > 0; over--) {
                borne[firstOfMost()]--;
            }
        }

        private void takeGaps(Tree tree, Measure back) {
            for (int i = 0; i < STATIONS; i++) {
                gaps[i] = tree.undersideAt(i) - back.heights[i];
            }
            int least = gaps[0];
            for (int i = 1; i < STATIONS; i++) {
                least = Math.min(least, gaps[i]);
            }
            for (int i = 0; i < STATIONS; i++) {
                gaps[i] -= least;
            }
        }

        private int borneAt(int depth) {
            int all = 0;
            for (int i = 0; i < STATIONS; i++) {
                all += Math.max(0, depth - gaps[i]);
            }
            return all;
        }

        private int depthFor(int load) {
            // One STATION's gap is 0, so a depth of LOAD, 2000 at most, is always enough.
            int tooLittle = 0;
            for (int step = 1024; step > 0; step /= 2) {
                if (borneAt(tooLittle + step) < load) {
                    tooLittle += step;
                }
            }
            return tooLittle + 1;
        }

        private int firstOfMost() {
            int found = 0;
            for (int i = 1; i < STATIONS; i++) {
                if (borne[i] > borne[found]) {
                    found = i;
                }
            }
            return found;
        }

        private int most() {
            return borne[firstOfMost()];
        }

        private int pressedCount() {
            return pressedFrom(0, STATIONS - 1);
        }

        private int pressedFrom(int first, int last) {
            int many = 0;
            for (int i = first; i <= last; i++) {
                if (borne[i] > 0) {
                    many++;
                }
            }
            return many;
        }

        private int firstFault(int m) {
            if (pressPlace(m) != NONE) {
                return PRESSES;
            }
            if (bridgePlace() != NONE) {
                return BRIDGES;
            }
            return rockPlace() != NONE ? ROCKS : 0;
        }

        private int faultPlace(int m) {
            switch (firstFault(m)) {
                case PRESSES:
                    return pressPlace(m);
                case BRIDGES:
                    return bridgePlace();
                case ROCKS:
                    return rockPlace();
                default:
                    return NONE;
            }
        }

        private int pressPlace(int m) {
            for (int i = 0; i < STATIONS; i++) {
                if (borne[i] > m) {
                    return i;
                }
            }
            return NONE;
        }

        private int bridgePlace() {
            int lastPressed = NONE;
            for (int i = 0; i < STATIONS; i++) {
                if (borne[i] > 0) {
                    if (lastPressed != NONE && i - lastPressed > 3) {
                        return lastPressed + 1;
                    }
                    lastPressed = i;
                }
            }
            return NONE;
        }

        private int rockPlace() {
            if (pressedFrom(0, 2) == 0) {
                return 0;
            }
            return pressedFrom(6, 8) == 0 ? 6 : NONE;
        }
    }

    private static final class Hide {
        private final int[] patches = new int[COLUMNS * ROWS];

        private int firstRoom(int width, int height) {
            for (int y = 0; y + height <= ROWS; y++) {
                for (int x = 0; x + width <= COLUMNS; x++) {
                    if (isWholeAt(COLUMNS * y + x, width, height)) {
                        return COLUMNS * y + x;
                    }
                }
            }
            return NONE;
        }

        private boolean isWholeAt(int place, int width, int height) {
            for (int y = 0; y < height; y++) {
                for (int x = 0; x < width; x++) {
                    if (patches[place + COLUMNS * y + x] != WHOLE) {
                        return false;
                    }
                }
            }
            return true;
        }

        private void mark(int place, int width, int height, int sign) {
            for (int y = 0; y < height; y++) {
                for (int x = 0; x < width; x++) {
                    patches[place + COLUMNS * y + x] = sign;
                }
            }
        }
    }

    private static final class Bench {
        private final int hours;
        private int freeHour = 0;

        private Bench(int hours) {
            this.hours = hours;
        }

        private int endFor(int n, int day) {
            return Math.max(day * hours, freeHour) + n;
        }

        private int promiseFor(int n, int day) {
            return hours < 1 ? MAX_PROMISE + 1 : (endFor(n, day) - 1) / hours;
        }
    }

    private static final class Saddle {
        private final int tree;
        private final int horse;
        private final int day;
        private final int guarantee;
        private final int change;

        private Saddle(int tree, int horse, int day, int guarantee, int change) {
            this.tree = tree;
            this.horse = horse;
            this.day = day;
            this.guarantee = guarantee;
            this.change = change;
        }

        private long mixInto(long h) {
            return mix(mix(mix(mix(mix(h, tree), horse), day), guarantee), change);
        }
    }
}
