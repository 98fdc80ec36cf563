import java.util.function.ToLongFunction;

/** Of several refusals the first as told by each call: UNKNOWN, OUTSIDE, STATE, FULL; they change nothing. */
public final class RefusalOrderTest {
    private static final Due D = new Due("RefusalOrderTest");

    public static void main(String[] args) {
        backs();
        measure();
        trees();
        bears();
        fault();
        best();
        shared();
        hides();
        benches();
        saddle();
        refits();
        allArgumentsAtTheirEnds();
        D.end();
    }

    /**
     * Horse 0 has six measures, from day 5 to day 10; horse 1 has none; horse 2 one, of day 5. The row at hand has a gap
     * at 0. Trees, benches, days and saddles are full; a hide is all cut.
     */
    private static SaddleHouse house() {
        SaddleHouse x = new SaddleHouse();
        x.horse();
        x.horse();
        x.horse();
        for (int day = 5; day <= 10; day++) {
            x.measure(0, day);
        }
        x.measure(2, 5);
        for (int n = 0; n < 8; n++) {
            x.tree();
        }
        x.height(0, Due.NONE);
        x.hide();
        x.cut(0, 16, 12);
        for (int n = 0; n < 3; n++) {
            x.bench(4);
        }
        for (int day = 1; day <= 6; day++) {
            x.day(day);
        }
        for (int n = 0; n < 12; n++) {
            x.saddle(n % 8, 0, 5 + n % 3, 10, 1);
        }
        return x;
    }

    private static void first(String call, ToLongFunction<SaddleHouse> ask, long want) {
        D.refused(call, RefusalOrderTest::house, ask, want);
    }

    private static void backs() {
        first("height: station and height", x -> x.height(9, 401), Due.UNKNOWN);
        first("height: station and height", x -> x.height(-1, -2), Due.UNKNOWN);
        first("back: horse, station and day", x -> x.back(3, -1, 9), Due.UNKNOWN);
        first("back: horse and day", x -> x.back(3, 10001, 0), Due.UNKNOWN);
        first("back: station and day", x -> x.back(0, 10001, 9), Due.UNKNOWN);
        first("back: station, without a back", x -> x.back(1, 5, 9), Due.UNKNOWN);
        first("back: station, ahead of the first", x -> x.back(0, 4, -1), Due.UNKNOWN);
        first("back: day, without a back", x -> x.back(1, 10001, 0), Due.OUTSIDE);
        first("back: day, ahead of the first", x -> x.back(0, -1, 0), Due.OUTSIDE);
        first("back: without a back", x -> x.back(1, 5, 0), Due.STATE);
    }

    private static long measureWithoutGap(SaddleHouse x, int horse, int day) {
        int was = x.height(0, 100);
        long answer = x.measure(horse, day);
        x.height(0, was);
        return answer;
    }

    private static void measure() {
        first("measure: horse, day and gap", x -> x.measure(3, -1), Due.UNKNOWN);
        first("measure: horse and gap", x -> x.measure(3, 11), Due.UNKNOWN);
        first("measure: horse and day", x -> measureWithoutGap(x, 3, 10001), Due.UNKNOWN);
        first("measure: gap, day not above, full", x -> x.measure(0, 10), Due.OUTSIDE);
        first("measure: gap, full", x -> x.measure(0, 11), Due.OUTSIDE);
        first("measure: gap, day not above", x -> x.measure(2, 5), Due.OUTSIDE);
        first("measure: day, not above, full", x -> measureWithoutGap(x, 0, -1), Due.OUTSIDE);
        first("measure: day, not above", x -> measureWithoutGap(x, 2, -1), Due.OUTSIDE);
        first("measure: day, full", x -> measureWithoutGap(x, 0, 10001), Due.OUTSIDE);
        first("measure: day not above, full", x -> measureWithoutGap(x, 0, 10), Due.STATE);
        first("measure: day not above", x -> measureWithoutGap(x, 2, 5), Due.STATE);
        first("measure: full", x -> measureWithoutGap(x, 0, 11), Due.FULL);
    }

    private static void trees() {
        first("tree: gap, full", x -> x.tree(), Due.OUTSIDE);
        first("shim: tree, station and shim", x -> x.shim(8, 9, 21), Due.UNKNOWN);
        first("shim: tree and shim", x -> x.shim(8, 0, 21), Due.UNKNOWN);
        first("shim: station and shim", x -> x.shim(0, 9, -1), Due.UNKNOWN);
        first("under: tree and station", x -> x.under(8, 9), Due.UNKNOWN);
    }

    private static void bears() {
        first("bears: tree and day", x -> x.bears(8, 0, -1, 1, 0), Due.UNKNOWN);
        first("bears: tree and load", x -> x.bears(8, 0, 5, 0, 0), Due.UNKNOWN);
        first("bears: tree, without a back", x -> x.bears(8, 1, 5, 1, 0), Due.UNKNOWN);
        first("bears: horse and day", x -> x.bears(0, 3, -1, 1, 0), Due.UNKNOWN);
        first("bears: horse and load", x -> x.bears(0, 3, 5, 2001, 0), Due.UNKNOWN);
        first("bears: station and day", x -> x.bears(0, 0, 10001, 1, 9), Due.UNKNOWN);
        first("bears: station and load", x -> x.bears(0, 0, 5, 0, -1), Due.UNKNOWN);
        first("bears: station, without a back", x -> x.bears(0, 1, 5, 1, 9), Due.UNKNOWN);
        first("bears: day, without a back", x -> x.bears(0, 1, -1, 1, 0), Due.OUTSIDE);
        first("bears: day, ahead of the first", x -> x.bears(0, 0, -1, 1, 0), Due.OUTSIDE);
        first("bears: load, without a back", x -> x.bears(0, 1, 5, 0, 0), Due.OUTSIDE);
        first("bears: load, ahead of the first", x -> x.bears(0, 0, 4, 2001, 0), Due.OUTSIDE);
        first("bears: without a back", x -> x.bears(0, 1, 5, 1, 0), Due.STATE);
    }

    private static void fault() {
        first("fault: tree and day", x -> x.fault(8, 0, -1, 1, 1, 0), Due.UNKNOWN);
        first("fault: tree and load", x -> x.fault(8, 0, 5, 0, 1, 0), Due.UNKNOWN);
        first("fault: tree and m", x -> x.fault(8, 0, 5, 1, 0, 0), Due.UNKNOWN);
        first("fault: tree and what", x -> x.fault(8, 0, 5, 1, 1, 4), Due.UNKNOWN);
        first("fault: tree, without a back", x -> x.fault(8, 1, 5, 1, 1, 0), Due.UNKNOWN);
        first("fault: horse and day", x -> x.fault(0, 3, -1, 1, 1, 0), Due.UNKNOWN);
        first("fault: horse and what", x -> x.fault(0, 3, 5, 1, 1, -1), Due.UNKNOWN);
        first("fault: day, without a back", x -> x.fault(0, 1, 10001, 1, 1, 0), Due.OUTSIDE);
        first("fault: load, without a back", x -> x.fault(0, 1, 5, 2001, 1, 0), Due.OUTSIDE);
        first("fault: m, without a back", x -> x.fault(0, 1, 5, 1, 2001, 0), Due.OUTSIDE);
        first("fault: what, without a back", x -> x.fault(0, 1, 5, 1, 1, 4), Due.OUTSIDE);
        first("fault: what, ahead of the first", x -> x.fault(0, 0, 4, 1, 1, -1), Due.OUTSIDE);
        first("fault: without a back", x -> x.fault(0, 1, 5, 1, 1, 3), Due.STATE);
    }

    private static void best() {
        first("best: horse and day", x -> x.best(3, -1, 1, 1), Due.UNKNOWN);
        first("best: horse and load", x -> x.best(3, 5, 0, 1), Due.UNKNOWN);
        first("best: horse and m", x -> x.best(3, 5, 1, 0), Due.UNKNOWN);
        first("best: day, without a back", x -> x.best(1, -1, 1, 1), Due.OUTSIDE);
        first("best: load, without a back", x -> x.best(1, 5, 0, 1), Due.OUTSIDE);
        first("best: m, without a back", x -> x.best(1, 5, 1, 0), Due.OUTSIDE);
        first("best: without a back", x -> x.best(1, 5, 1, 1), Due.STATE);
    }

    private static void shared() {
        first("day: outside, full", x -> x.day(-1), Due.OUTSIDE);
        first("day: outside, full", x -> x.day(10001), Due.OUTSIDE);
        first("day: there, full", x -> x.day(6), Due.STATE);
        first("day: full", x -> x.day(7), Due.FULL);
        first("serves: load and m", x -> x.serves(1, 0, 2001), Due.OUTSIDE);
        first("fewest: load and m", x -> x.fewest(2001, 0), Due.OUTSIDE);
    }

    private static void hides() {
        first("flaw: hide, on a place that is cut", x -> x.flaw(1, 0, 0), Due.UNKNOWN);
        first("flaw: column, on a hide that is cut", x -> x.flaw(0, 16, 0), Due.UNKNOWN);
        first("flaw: row, on a hide that is cut", x -> x.flaw(0, 0, 12), Due.UNKNOWN);
        first("flaw: cut", x -> x.flaw(0, 0, 0), Due.STATE);
        first("cut: hide and width", x -> x.cut(1, 17, 1), Due.UNKNOWN);
        first("cut: hide and height", x -> x.cut(1, 1, 13), Due.UNKNOWN);
        first("cut: width, without room", x -> x.cut(0, 17, 1), Due.OUTSIDE);
        first("cut: height, without room", x -> x.cut(0, 1, 13), Due.OUTSIDE);
        first("cut: no width, without room", x -> x.cut(0, 0, 1), Due.OUTSIDE);
        first("pair: hide and width", x -> x.pair(-1, 0, 1), Due.UNKNOWN);
        first("pair: hide and height", x -> x.pair(-1, 1, 0), Due.UNKNOWN);
        first("pair: width, without room", x -> x.pair(0, 17, 1), Due.OUTSIDE);
        first("pair: height, without room", x -> x.pair(0, 1, 13), Due.OUTSIDE);
        first("patch: hide and column", x -> x.patch(1, 16, 0), Due.UNKNOWN);
    }

    private static void benches() {
        first("bench: hours, full", x -> x.bench(0), Due.OUTSIDE);
        first("bench: hours, full", x -> x.bench(25), Due.OUTSIDE);
        first("bench: full", x -> x.bench(24), Due.FULL);
        first("work: hours and day", x -> x.work(0, -1), Due.OUTSIDE);
        D.refused("work: hours, without a bench", SaddleHouse::new, x -> x.work(1001, 0), Due.OUTSIDE);
        D.refused("work: day, without a bench", SaddleHouse::new, x -> x.work(1, 10001), Due.OUTSIDE);
        D.refused("work: without a bench", SaddleHouse::new, x -> x.work(1, 10000), Due.STATE);
    }

    private static void saddle() {
        first("saddle: tree and day, full", x -> x.saddle(8, 0, -1, 0, 0), Due.UNKNOWN);
        first("saddle: tree and d, full", x -> x.saddle(8, 0, 5, 2001, 0), Due.UNKNOWN);
        first("saddle: tree and c, full", x -> x.saddle(8, 0, 5, 0, 401), Due.UNKNOWN);
        first("saddle: tree, without a back, full", x -> x.saddle(8, 1, 5, 0, 0), Due.UNKNOWN);
        first("saddle: horse and day, full", x -> x.saddle(0, 3, 10001, 0, 0), Due.UNKNOWN);
        first("saddle: horse, full", x -> x.saddle(0, 3, 5, 0, 0), Due.UNKNOWN);
        first("saddle: day, without a back, full", x -> x.saddle(0, 1, -1, 0, 0), Due.OUTSIDE);
        first("saddle: d, without a back, full", x -> x.saddle(0, 1, 5, -1, 0), Due.OUTSIDE);
        first("saddle: c, without a back, full", x -> x.saddle(0, 1, 5, 0, -1), Due.OUTSIDE);
        first("saddle: c, full", x -> x.saddle(0, 0, 5, 0, 401), Due.OUTSIDE);
        first("saddle: without a back, full", x -> x.saddle(0, 1, 5, 0, 0), Due.STATE);
        first("saddle: ahead of the first, full", x -> x.saddle(0, 0, 4, 0, 0), Due.STATE);
        first("saddle: full", x -> x.saddle(0, 0, 5, 0, 0), Due.FULL);
    }

    private static void refits() {
        first("free: saddle and day", x -> x.free(12, -1), Due.UNKNOWN);
        first("free: saddle and a day that is not later", x -> x.free(-1, 5), Due.UNKNOWN);
        first("free: a day that is not later", x -> x.free(0, 5), Due.OUTSIDE);
        first("changed: saddle and day", x -> x.changed(12, 10001), Due.UNKNOWN);
        first("changed: saddle and a day that is not later", x -> x.changed(-1, 5), Due.UNKNOWN);
        first("changed: a day that is not later", x -> x.changed(0, 5), Due.OUTSIDE);
    }

    /** Whatever is told, each call answers: here with all arguments at the ends of what a number can be. */
    private static void allArgumentsAtTheirEnds() {
        int[] ends = {Due.LOW, Due.HIGH, Due.LOW + 1, Due.HIGH - 1};
        for (int n : ends) {
            first("height at " + n, x -> x.height(n, n), Due.UNKNOWN);
            first("measure at " + n, x -> x.measure(n, n), Due.UNKNOWN);
            first("back at " + n, x -> x.back(n, n, n), Due.UNKNOWN);
            first("shim at " + n, x -> x.shim(n, n, n), Due.UNKNOWN);
            first("under at " + n, x -> x.under(n, n), Due.UNKNOWN);
            first("bears at " + n, x -> x.bears(n, n, n, n, n), Due.UNKNOWN);
            first("fault at " + n, x -> x.fault(n, n, n, n, n, n), Due.UNKNOWN);
            first("best at " + n, x -> x.best(n, n, n, n), Due.UNKNOWN);
            first("day at " + n, x -> x.day(n), Due.OUTSIDE);
            first("serves at " + n, x -> x.serves(n, n, n), Due.OUTSIDE);
            first("fewest at " + n, x -> x.fewest(n, n), Due.OUTSIDE);
            first("flaw at " + n, x -> x.flaw(n, n, n), Due.UNKNOWN);
            first("cut at " + n, x -> x.cut(n, n, n), Due.UNKNOWN);
            first("pair at " + n, x -> x.pair(n, n, n), Due.UNKNOWN);
            first("patch at " + n, x -> x.patch(n, n, n), Due.UNKNOWN);
            first("bench at " + n, x -> x.bench(n), Due.OUTSIDE);
            first("work at " + n, x -> x.work(n, n), Due.OUTSIDE);
            first("saddle at " + n, x -> x.saddle(n, n, n, n, n), Due.UNKNOWN);
            first("free at " + n, x -> x.free(n, n), Due.UNKNOWN);
            first("changed at " + n, x -> x.changed(n, n), Due.UNKNOWN);
            first("count at " + n, x -> x.count(n), Due.OUTSIDE);
        }
    }
}
