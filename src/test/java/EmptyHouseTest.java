import java.util.function.ToLongFunction;

/** Promise 1, and what all other calls answer where nothing is there yet: each asked of a house of its own. */
public final class EmptyHouseTest {
    private static final Due D = new Due("EmptyHouseTest");

    public static void main(String[] args) {
        nothingHasANumber();
        nothingCanBeDone();
        nothingIsTold();
        theFirstOfEachIsNumber0();
        aHorseAlone();
        aTreeAlone();
        D.end();
    }

    private static void stays(String call, ToLongFunction<SaddleHouse> ask, long want) {
        D.refused(call + " of a new object", SaddleHouse::new, ask, want);
    }

    private static void nothingHasANumber() {
        stays("measure(0, 0)", x -> x.measure(0, 0), Due.UNKNOWN);
        stays("back(0, 0, 0)", x -> x.back(0, 0, 0), Due.UNKNOWN);
        stays("shim(0, 0, 0)", x -> x.shim(0, 0, 0), Due.UNKNOWN);
        stays("under(0, 0)", x -> x.under(0, 0), Due.UNKNOWN);
        stays("bears(0, 0, 0, 1, 0)", x -> x.bears(0, 0, 0, 1, 0), Due.UNKNOWN);
        stays("fault(0, 0, 0, 1, 1, 0)", x -> x.fault(0, 0, 0, 1, 1, 0), Due.UNKNOWN);
        stays("best(0, 0, 1, 1)", x -> x.best(0, 0, 1, 1), Due.UNKNOWN);
        stays("flaw(0, 0, 0)", x -> x.flaw(0, 0, 0), Due.UNKNOWN);
        stays("cut(0, 1, 1)", x -> x.cut(0, 1, 1), Due.UNKNOWN);
        stays("pair(0, 1, 1)", x -> x.pair(0, 1, 1), Due.UNKNOWN);
        stays("patch(0, 0, 0)", x -> x.patch(0, 0, 0), Due.UNKNOWN);
        stays("saddle(0, 0, 0, 0, 0)", x -> x.saddle(0, 0, 0, 0, 0), Due.UNKNOWN);
        stays("free(0, 1)", x -> x.free(0, 1), Due.UNKNOWN);
        stays("changed(0, 1)", x -> x.changed(0, 1), Due.UNKNOWN);
    }

    private static void nothingCanBeDone() {
        stays("work(1, 0)", x -> x.work(1, 0), Due.STATE);
        stays("where()", x -> x.where(), Due.NONE);
        stays("clear()", x -> x.clear(), 0);
        stays("serves(0, 1, 1)", x -> x.serves(0, 1, 1), 1);
        stays("serves(255, 2000, 2000)", x -> x.serves(255, 2000, 2000), 1);
        stays("serves(0, 0, 1)", x -> x.serves(0, 0, 1), Due.OUTSIDE);
        stays("fewest(1, 1)", x -> x.fewest(1, 1), 0);
        stays("fewest(2000, 2000)", x -> x.fewest(2000, 2000), 0);
        stays("fewest(1, 2001)", x -> x.fewest(1, 2001), Due.OUTSIDE);
    }

    private static void nothingIsTold() {
        for (int what = 0; what <= 7; what++) {
            int each = what;
            stays("count(" + what + ")", x -> x.count(each), 0);
        }
        stays("digest()", x -> x.digest(), 131);
        for (int i = 0; i <= 8; i++) {
            int each = i;
            stays("height(" + i + ", 100)", x -> x.height(each, 100), 100);
        }
    }

    private static void theFirstOfEachIsNumber0() {
        D.due("the first horse", new SaddleHouse().horse(), 0);
        D.due("the first tree", new SaddleHouse().tree(), 0);
        D.due("the first hide", new SaddleHouse().hide(), 0);
        D.due("the first bench", new SaddleHouse().bench(1), 0);
        D.due("the first day is how many", new SaddleHouse().day(0), 1);
    }

    /** There are no trees; ahead of the first measure there is no back. */
    private static void aHorseAlone() {
        SaddleHouse x = new SaddleHouse();
        x.horse();
        D.due("no back without a measure", x.back(0, 10000, 0), Due.STATE);
        D.due("no best without a back", x.best(0, 10000, 1, 1), Due.STATE);
        D.due("no saddle without a tree", x.saddle(0, 0, 10000, 0, 0), Due.UNKNOWN);
        x.day(0);
        D.due("a horse without a back is served", x.fewest(1, 1), 0);
        D.due("the first measure is how many", x.measure(0, 0), 1);
        D.due("the row at first is 100 each", x.back(0, 0, 8), 100);
        D.due("no tree is best", x.best(0, 0, 1, 2000), Due.NONE);
        D.due("no tree serves", x.fewest(9, 2000), Due.NONE);
        D.due("no choice serves", x.serves(-1, 9, 2000), 0);
    }

    private static void aTreeAlone() {
        SaddleHouse x = new SaddleHouse();
        x.tree();
        D.due("no horse bears it", x.bears(0, 0, 0, 1, 0), Due.UNKNOWN);
        D.due("no horse for a fault", x.fault(0, 0, 0, 1, 1, 0), Due.UNKNOWN);
        D.due("no horse for a saddle", x.saddle(0, 0, 0, 0, 0), Due.UNKNOWN);
        x.day(0);
        D.due("no horse, so none is needed", x.fewest(1, 1), 0);
        x.horse();
        D.due("a horse without a back bears nothing", x.bears(0, 0, 0, 1, 0), Due.STATE);
        D.due("nor is there a fault", x.fault(0, 0, 0, 1, 1, 0), Due.STATE);
        D.due("nor a saddle", x.saddle(0, 0, 0, 0, 0), Due.STATE);
        D.due("count(4)", x.count(4), 0);
    }
}
