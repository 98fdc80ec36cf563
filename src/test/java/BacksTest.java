/** Promises 1 to 5: a new object, horse, height, measure, back. */
public final class BacksTest {
    private static final Due D = new Due("BacksTest");

    public static void main(String[] args) {
        newObject();
        horse();
        height();
        heightRefuses();
        measure();
        measureRefuses();
        sixMeasuresAtMostOfEachHorse();
        eachHorseHasDaysOfItsOwn();
        theRowKeepsItsGaps();
        gapsAlone();
        gapsRise();
        gapsFallRoundedDown();
        gapsInARow();
        backIsTheLatestOfThatDayOrAhead();
        backRefuses();
        D.end();
    }

    private static void newObject() {
        SaddleHouse x = new SaddleHouse();
        for (int what = 0; what <= 7; what++) {
            D.due("count(" + what + ") of a new object", x.count(what), 0);
        }
        D.due("where() of a new object", x.where(), Due.NONE);
        D.due("digest() of a new object", x.digest(), 131);
        D.due("clear() of a new object", x.clear(), 0);
        D.due("NONE", SaddleHouse.NONE, Due.NONE);
        D.due("UNKNOWN", SaddleHouse.UNKNOWN, Due.UNKNOWN);
        D.due("OUTSIDE", SaddleHouse.OUTSIDE, Due.OUTSIDE);
        D.due("STATE", SaddleHouse.STATE, Due.STATE);
        D.due("FULL", SaddleHouse.FULL, Due.FULL);
        SaddleHouse other = new SaddleHouse();
        other.horse();
        other.height(3, 7);
        D.due("an object is none of another's business", x.count(0), 0);
        D.due("nor is its row", x.height(3, 100), 100);
    }

    private static void horse() {
        SaddleHouse x = new SaddleHouse();
        for (int n = 0; n < 8; n++) {
            D.due("horse() " + n, x.horse(), n);
        }
        long before = Due.told(x);
        D.refused("horse() 8", x, before, x.horse(), Due.FULL);
        D.refused("measure of a horse 8", x, before, x.measure(8, 3), Due.UNKNOWN);
        D.refused("back of a horse 8", x, before, x.back(8, 3, 0), Due.UNKNOWN);
        D.due("measure of the last", x.measure(7, 3), 1);
        D.due("back of the last", x.back(7, 3, 0), 100);
        D.due("count(0)", x.count(0), 8);
    }

    private static void height() {
        SaddleHouse x = new SaddleHouse();
        for (int i = 0; i <= 8; i++) {
            D.due("height at first", x.height(i, 400), 100);
            D.due("height 400", x.height(i, 0), 400);
            D.due("height 0", x.height(i, Due.NONE), 0);
            D.due("height NONE", x.height(i, 10 + i), Due.NONE);
        }
        for (int i = 0; i <= 8; i++) {
            D.due("each station keeps its own", x.height(i, 1), 10 + i);
        }
    }

    private static void heightRefuses() {
        SaddleHouse x = new SaddleHouse();
        long before = Due.told(x);
        int[] noStations = {-1, 9, Due.LOW, Due.HIGH};
        for (int i : noStations) {
            D.refused("height(" + i + ", 5)", x, before, x.height(i, 5), Due.UNKNOWN);
            D.refused("height(" + i + ", 401)", x, before, x.height(i, 401), Due.UNKNOWN);
        }
        int[] noHeights = {-2, 401, Due.LOW, Due.HIGH, Due.UNKNOWN};
        for (int v : noHeights) {
            D.refused("height(0, " + v + ")", x, before, x.height(0, v), Due.OUTSIDE);
        }
    }

    private static void measure() {
        SaddleHouse x = new SaddleHouse();
        x.horse();
        x.horse();
        Due.row(x, 1, 2, 3, 4, 5, 6, 7, 8, 9);
        D.due("measure(0, 0)", x.measure(0, 0), 1);
        D.due("the row stays", x.height(4, 50), 5);
        D.due("a measure keeps what it was", x.back(0, 0, 4), 5);
        D.due("measure(0, 1)", x.measure(0, 1), 2);
        D.due("measure(1, 10000)", x.measure(1, 10000), 1);
        D.due("measure(0, 10000)", x.measure(0, 10000), 3);
        D.due("back(0, 1, 4)", x.back(0, 1, 4), 50);
        D.due("back(1, 10000, 4)", x.back(1, 10000, 4), 50);
    }

    private static SaddleHouse withFiveMeasures() {
        SaddleHouse x = new SaddleHouse();
        x.horse();
        for (int n = 1; n <= 5; n++) {
            D.due("measure " + n, x.measure(0, 10 * n), n);
        }
        return x;
    }

    private static SaddleHouse withGapAt(int i) {
        SaddleHouse x = new SaddleHouse();
        x.horse();
        x.height(i, Due.NONE);
        return x;
    }

    private static void measureRefuses() {
        D.refused("measure without a horse", SaddleHouse::new, h -> h.measure(0, 0), Due.UNKNOWN);
        int[] unknown = {-1, 1, 8, Due.LOW, Due.HIGH};
        for (int n : unknown) {
            D.refused("measure(" + n + ", 51)", BacksTest::withFiveMeasures, h -> h.measure(n, 51), Due.UNKNOWN);
        }
        int[] noDays = {-1, 10001, Due.LOW, Due.HIGH};
        for (int day : noDays) {
            D.refused("measure(0, " + day + ")", BacksTest::withFiveMeasures, h -> h.measure(0, day), Due.OUTSIDE);
        }
        D.refused("measure with a gap at 0", () -> withGapAt(0), h -> h.measure(0, 3), Due.OUTSIDE);
        D.refused("measure with a gap at 8", () -> withGapAt(8), h -> h.measure(0, 3), Due.OUTSIDE);
        for (int i = 1; i <= 7; i++) {
            D.due("measure with a gap at " + i, withGapAt(i).measure(0, 3), 1);
        }
        int[] notAbove = {0, 49, 50};
        for (int day : notAbove) {
            D.refused("day " + day + " behind 50", BacksTest::withFiveMeasures, h -> h.measure(0, day), Due.STATE);
        }
        D.due("day 51 behind 50", withFiveMeasures().measure(0, 51), 6);
    }

    private static SaddleHouse withSixMeasures() {
        SaddleHouse x = withFiveMeasures();
        x.horse();
        D.due("measure 6", x.measure(0, 10000), 6);
        return x;
    }

    private static void sixMeasuresAtMostOfEachHorse() {
        SaddleHouse x = new SaddleHouse();
        x.horse();
        x.horse();
        for (int n = 1; n <= 6; n++) {
            D.due("measure " + n, x.measure(0, n), n);
        }
        long before = Due.told(x);
        D.refused("measure 7", x, before, x.measure(0, 7), Due.FULL);
        D.due("the sixth is the back", x.back(0, 10000, 4), 100);
        D.due("the other horse has room", x.measure(1, 7), 1);
    }

    private static void eachHorseHasDaysOfItsOwn() {
        SaddleHouse x = withSixMeasures();
        D.due("day 0 of horse 1 behind day 10000 of horse 0", x.measure(1, 0), 1);
        D.due("and day 10000 of it too", x.measure(1, 10000), 2);
        D.refused("no day is above 10000", () -> {
            SaddleHouse last = new SaddleHouse();
            last.horse();
            last.measure(0, 10000);
            return last;
        }, h -> h.measure(0, 10000), Due.STATE);
    }

    private static void theRowKeepsItsGaps() {
        SaddleHouse x = withGapAt(4);
        x.height(5, 101);
        D.due("a measure with a gap", x.measure(0, 3), 1);
        D.due("is filled", x.back(0, 3, 4), 100);
        D.due("the row at hand is not", x.height(4, 7), Due.NONE);
        x.height(0, Due.NONE);
        D.due("a measure that is refused", x.measure(0, 4), Due.OUTSIDE);
        D.due("leaves the gap in the row", x.height(0, 9), Due.NONE);
        D.due("and is taken without it", x.measure(0, 4), 2);
        D.due("from the row as it is now", x.back(0, 4, 4), 7);
    }

    private static void backs(String name, int[] row, int... want) {
        SaddleHouse x = new SaddleHouse();
        x.horse();
        Due.row(x, row);
        x.measure(0, 0);
        for (int i = 0; i <= 8; i++) {
            D.due(name + " at " + i, x.back(0, 0, i), want[i]);
        }
    }

    /** One gap takes half of the difference, and of 1 up nothing, of 1 down all. */
    private static void gapsAlone() {
        backs("gaps one by one", new int[] {0, -1, 1, -1, 0, -1, 400, -1, 0}, 0, 0, 1, 0, 0, 200, 400, 200, 0);
        backs("a gap at 1 and at 7", new int[] {10, -1, 13, 13, 13, 13, 13, -1, 10}, 10, 11, 13, 13, 13, 13, 13, 11, 10);
        backs("a gap between like heights", new int[] {5, -1, 5, -1, -1, 5, -1, -1, 5}, 5, 5, 5, 5, 5, 5, 5, 5, 5);
        backs("a rise of 1 in eight", new int[] {0, -1, -1, -1, -1, -1, -1, -1, 1}, 0, 0, 0, 0, 0, 0, 0, 0, 1);
        backs("a fall of 1 in eight", new int[] {1, -1, -1, -1, -1, -1, -1, -1, 0}, 1, 0, 0, 0, 0, 0, 0, 0, 0);
        backs("from 0 to 400", new int[] {0, -1, -1, -1, -1, -1, -1, -1, 400}, 0, 50, 100, 150, 200, 250, 300, 350, 400);
        backs("from 400 to 0", new int[] {400, -1, -1, -1, -1, -1, -1, -1, 0}, 400, 350, 300, 250, 200, 150, 100, 50, 0);
    }

    private static void gapsRise() {
        SaddleHouse x = new SaddleHouse();
        x.horse();
        Due.row(x, 0, -1, -1, 10, 11, -1, 14, -1, 400);
        x.measure(0, 0);
        int[] want = {0, 3, 6, 10, 11, 12, 14, 207, 400};
        for (int i = 0; i <= 8; i++) {
            D.due("rising back at " + i, x.back(0, 0, i), want[i]);
        }
    }

    private static void gapsFallRoundedDown() {
        SaddleHouse x = new SaddleHouse();
        x.horse();
        Due.row(x, 400, -1, 399, -1, -1, 389, -1, -1, 388);
        x.measure(0, 0);
        int[] want = {400, 399, 399, 395, 392, 389, 388, 388, 388};
        for (int i = 0; i <= 8; i++) {
            D.due("falling back at " + i, x.back(0, 0, i), want[i]);
        }
    }

    private static void gapsInARow() {
        SaddleHouse x = new SaddleHouse();
        x.horse();
        x.horse();
        Due.row(x, 3, -1, -1, -1, -1, -1, -1, -1, 400);
        x.measure(0, 0);
        Due.row(x, 400, -1, -1, -1, -1, -1, -1, -1, 3);
        x.measure(1, 0);
        int[] up = {3, 52, 102, 151, 201, 251, 300, 350, 400};
        int[] down = {400, 350, 300, 251, 201, 151, 102, 52, 3};
        for (int i = 0; i <= 8; i++) {
            D.due("all gaps up at " + i, x.back(0, 0, i), up[i]);
            D.due("all gaps down at " + i, x.back(1, 0, i), down[i]);
        }
    }

    private static void backIsTheLatestOfThatDayOrAhead() {
        SaddleHouse x = new SaddleHouse();
        x.horse();
        x.horse();
        Due.flat(x, 10);
        x.measure(0, 5);
        Due.flat(x, 20);
        x.measure(0, 9);
        Due.flat(x, 30);
        x.measure(0, 10000);
        D.due("back on day 0", x.back(0, 0, 0), Due.STATE);
        D.due("back on day 4", x.back(0, 4, 0), Due.STATE);
        D.due("back on day 5", x.back(0, 5, 0), 10);
        D.due("back on day 8", x.back(0, 8, 8), 10);
        D.due("back on day 9", x.back(0, 9, 8), 20);
        D.due("back on day 9999", x.back(0, 9999, 3), 20);
        D.due("back on day 10000", x.back(0, 10000, 3), 30);
        D.due("back of a horse without measures", x.back(1, 10000, 3), Due.STATE);
    }

    private static void backRefuses() {
        SaddleHouse x = new SaddleHouse();
        x.horse();
        x.measure(0, 5);
        long before = Due.told(x);
        D.refused("back of horse 1", x, before, x.back(1, -1, 0), Due.UNKNOWN);
        D.refused("back of horse -1", x, before, x.back(-1, 5, 0), Due.UNKNOWN);
        D.refused("back of horse low", x, before, x.back(Due.LOW, 5, 0), Due.UNKNOWN);
        D.refused("back at station 9", x, before, x.back(0, -1, 9), Due.UNKNOWN);
        D.refused("back at station -1", x, before, x.back(0, 5, -1), Due.UNKNOWN);
        D.refused("back at station high", x, before, x.back(0, 5, Due.HIGH), Due.UNKNOWN);
        D.refused("back on day -1", x, before, x.back(0, -1, 0), Due.OUTSIDE);
        D.refused("back on day 10001", x, before, x.back(0, 10001, 0), Due.OUTSIDE);
        D.refused("back on day low", x, before, x.back(0, Due.LOW, 0), Due.OUTSIDE);
        D.refused("back on day 4", x, before, x.back(0, 4, 0), Due.STATE);
    }
}
