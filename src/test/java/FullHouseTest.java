import java.util.function.ToLongFunction;

/**
 * FULL, and what all calls answer at the last numbers: 8 horses of 6 measures, 8 trees, 4 hides of which the last is all
 * cut, 3 benches, 12 saddles, 6 days.
 */
public final class FullHouseTest {
    private static final Due D = new Due("FullHouseTest");
    private static final int[] DAYS = {0, 1, 50, 5000, 9999, 10000};

    public static void main(String[] args) {
        everythingIsFull();
        numbersBehindTheLastAreUnknown();
        theLastOfEachAnswers();
        theFirstOfEachAnswers();
        allServeAll();
        theLastHideIsAllCut();
        whatIsFullCanStillBeUsed();
        onlyDaysCanGo();
        count();
        digest();
        D.end();
    }

    /**
     * By a load of 9 and an m of 1 tree n fits horse n alone, for both are higher at station n; on the last day only tree 0
     * and horse 0, for the other backs have risen behind.
     */
    private static SaddleHouse full() {
        SaddleHouse x = new SaddleHouse();
        for (int n = 0; n < 8; n++) {
            x.horse();
            x.height(n, 200);
            x.tree();
            for (int k = 0; k < DAYS.length; k++) {
                x.height(8, 100 + (k < 5 ? 0 : 20 * n));
                x.measure(n, DAYS[k]);
            }
            x.height(8, 100);
            x.height(n, 100);
        }
        for (int h = 0; h < 4; h++) {
            x.hide();
        }
        x.cut(3, 16, 12);
        for (int b = 1; b <= 3; b++) {
            x.bench(b);
            x.work(b, 10000);
        }
        for (int s = 0; s < 12; s++) {
            x.saddle(s % 8, 7 - s % 8, s, 2000, s);
        }
        for (int day : DAYS) {
            x.day(day);
        }
        return x;
    }

    private static void stays(String call, ToLongFunction<SaddleHouse> ask, long want) {
        D.refused(call + " of a full house", FullHouseTest::full, ask, want);
    }

    private static void everythingIsFull() {
        stays("horse()", x -> x.horse(), Due.FULL);
        stays("tree()", x -> x.tree(), Due.FULL);
        stays("hide()", x -> x.hide(), Due.FULL);
        stays("bench(1)", x -> x.bench(1), Due.FULL);
        stays("bench(24)", x -> x.bench(24), Due.FULL);
        stays("saddle(0, 0, 0, 0, 0)", x -> x.saddle(0, 0, 0, 0, 0), Due.FULL);
        stays("saddle(7, 7, 10000, 2000, 400)", x -> x.saddle(7, 7, 10000, 2000, 400), Due.FULL);
        stays("day(2)", x -> x.day(2), Due.FULL);
        stays("day(9998)", x -> x.day(9998), Due.FULL);
        for (int day : DAYS) {
            stays("a day that is there, " + day, x -> x.day(day), Due.STATE);
        }
        for (int n = 0; n < 8; n++) {
            int each = n;
            stays("measure(" + n + ", 10000)", x -> x.measure(each, 10000), Due.STATE);
        }
    }

    private static void numbersBehindTheLastAreUnknown() {
        stays("measure(8, 10000)", x -> x.measure(8, 10000), Due.UNKNOWN);
        stays("back(8, 0, 0)", x -> x.back(8, 0, 0), Due.UNKNOWN);
        stays("shim(8, 0, 0)", x -> x.shim(8, 0, 0), Due.UNKNOWN);
        stays("under(8, 0)", x -> x.under(8, 0), Due.UNKNOWN);
        stays("bears(8, 7, 0, 1, 0)", x -> x.bears(8, 7, 0, 1, 0), Due.UNKNOWN);
        stays("bears(7, 8, 0, 1, 0)", x -> x.bears(7, 8, 0, 1, 0), Due.UNKNOWN);
        stays("bears(7, 7, 0, 1, 9)", x -> x.bears(7, 7, 0, 1, 9), Due.UNKNOWN);
        stays("fault(8, 7, 0, 1, 1, 0)", x -> x.fault(8, 7, 0, 1, 1, 0), Due.UNKNOWN);
        stays("fault(7, 8, 0, 1, 1, 0)", x -> x.fault(7, 8, 0, 1, 1, 0), Due.UNKNOWN);
        stays("best(8, 0, 1, 1)", x -> x.best(8, 0, 1, 1), Due.UNKNOWN);
        stays("flaw(4, 0, 0)", x -> x.flaw(4, 0, 0), Due.UNKNOWN);
        stays("cut(4, 1, 1)", x -> x.cut(4, 1, 1), Due.UNKNOWN);
        stays("pair(4, 1, 1)", x -> x.pair(4, 1, 1), Due.UNKNOWN);
        stays("patch(4, 0, 0)", x -> x.patch(4, 0, 0), Due.UNKNOWN);
        stays("saddle(8, 7, 0, 0, 0)", x -> x.saddle(8, 7, 0, 0, 0), Due.UNKNOWN);
        stays("saddle(7, 8, 0, 0, 0)", x -> x.saddle(7, 8, 0, 0, 0), Due.UNKNOWN);
        stays("free(12, 10000)", x -> x.free(12, 10000), Due.UNKNOWN);
        stays("changed(12, 10000)", x -> x.changed(12, 10000), Due.UNKNOWN);
    }

    private static void theLastOfEachAnswers() {
        SaddleHouse x = full();
        D.due("the last horse's first back", x.back(7, 0, 7), 200);
        D.due("the last horse's back ahead of its last", x.back(7, 9999, 8), 100);
        D.due("the last horse's last back", x.back(7, 10000, 8), 240);
        D.due("the last tree", x.under(7, 7), 200);
        D.due("the last tree on the last horse", x.bears(7, 7, 9999, 9, 8), 1);
        D.due("the last tree's fault", x.fault(7, 7, 9999, 9, 1, 0), 0);
        D.due("the last tree is the last horse's best", x.best(7, 9999, 9, 1), 7);
        D.due("the last saddle's change", x.changed(11, 10000), 80);
        D.due("the last saddle's re-fit", x.free(11, 2011), 0);
        D.due("the last bench has the least promise", x.work(3, 10000), 10001);
        D.due("and so the work is done there", x.where(), 2);
        D.due("the last hide's last patch", x.patch(3, 15, 11), 2);
        D.due("a flaw on the last hide", x.flaw(3, 15, 11), Due.STATE);
    }

    private static void theFirstOfEachAnswers() {
        SaddleHouse x = full();
        D.due("the first horse's first back", x.back(0, 0, 0), 200);
        D.due("the first horse's last back", x.back(0, 10000, 8), 100);
        D.due("the first tree", x.under(0, 0), 200);
        D.due("the first tree on the first horse", x.bears(0, 0, 0, 9, 0), 1);
        D.due("the first tree is the first horse's best", x.best(0, 0, 9, 1), 0);
        D.due("the first saddle's change", x.changed(0, 10000), 140);
        D.due("the first saddle's re-fit in time", x.free(0, 2000), 1);
        D.due("the first saddle's re-fit too late", x.free(0, 2001), 0);
        D.due("the first hide's first patch", x.patch(0, 0, 0), 0);
    }

    private static void allServeAll() {
        SaddleHouse x = full();
        D.due("no day is left out", x.serves(255, 9, 1), 0);
        D.due("nor is the last horse, on the last day", x.fewest(9, 1), Due.NONE);
        x.clear();
        for (int k = 0; k < 5; k++) {
            x.day(DAYS[k]);
        }
        x.day(1234);
        D.due("all trees, on six days", x.serves(255, 9, 1), 1);
        D.due("all trees are the fewest", x.fewest(9, 1), 255);
        for (int t = 0; t < 8; t++) {
            D.due("all trees but " + t, x.serves(255 - (1 << t), 9, 1), 0);
        }
        D.due("a bit behind the last tree's", x.serves(256, 9, 1), 0);
        D.due("all bits behind the last tree's", x.serves(-256, 9, 1), 0);
        D.due("all bits", x.serves(-1, 9, 1), 1);
        D.due("all bits but the sign", x.serves(Due.HIGH, 9, 1), 1);
        D.due("the sign alone", x.serves(Due.LOW, 9, 1), 0);
    }

    private static void theLastHideIsAllCut() {
        stays("cut(3, 1, 1)", x -> x.cut(3, 1, 1), Due.NONE);
        stays("cut(3, 16, 12)", x -> x.cut(3, 16, 12), Due.NONE);
        stays("pair(3, 1, 1)", x -> x.pair(3, 1, 1), Due.NONE);
        stays("flaw(3, 0, 0)", x -> x.flaw(3, 0, 0), Due.STATE);
        stays("flaw(3, 15, 11)", x -> x.flaw(3, 15, 11), Due.STATE);
        stays("flaw(3, 16, 11)", x -> x.flaw(3, 16, 11), Due.UNKNOWN);
        stays("pair(2, 16, 7)", x -> x.pair(2, 16, 7), Due.NONE);
    }

    private static void whatIsFullCanStillBeUsed() {
        SaddleHouse x = full();
        D.due("a shim of the last tree", x.shim(7, 8, 20), 0);
        D.due("changes its underside", x.under(7, 8), 80);
        D.due("a height of the row", x.height(8, 400), 100);
        D.due("a flaw on a whole hide", x.flaw(2, 15, 11), 0);
        D.due("a piece beside it", x.cut(2, 15, 12), 0);
        D.due("a pair of a whole hide", x.pair(1, 16, 6), 256 * 96);
        D.due("work on the first", x.work(1, 0), 10001);
        D.due("is done there, of like ones", x.where(), 0);
        D.due("count(6)", x.count(6), 192 + 180 + 192);
        D.due("count(7)", x.count(7), 1 + 2 + 3 + 1);
    }

    private static void onlyDaysCanGo() {
        SaddleHouse x = full();
        D.due("clear()", x.clear(), 6);
        D.due("a day of its own", x.day(2), 1);
        D.due("horse()", x.horse(), Due.FULL);
        D.due("tree()", x.tree(), Due.FULL);
        D.due("hide()", x.hide(), Due.FULL);
        D.due("bench(3)", x.bench(3), Due.FULL);
        D.due("saddle(0, 0, 0, 0, 0)", x.saddle(0, 0, 0, 0, 0), Due.FULL);
        D.due("measure(0, 10000)", x.measure(0, 10000), Due.STATE);
    }

    private static void count() {
        SaddleHouse x = full();
        int[] want = {8, 8, 4, 3, 12, 6, 192, 6};
        for (int what = 0; what <= 7; what++) {
            D.due("count(" + what + ")", x.count(what), want[what]);
        }
        stays("count(8)", h -> h.count(8), Due.OUTSIDE);
        stays("count(-1)", h -> h.count(-1), Due.OUTSIDE);
    }

    private long h = 131;

    private void tell(long... numbers) {
        for (long number : numbers) {
            h = 31 * h + number;
        }
    }

    private static void digest() {
        FullHouseTest told = new FullHouseTest();
        for (int n = 0; n < 8; n++) {
            told.tell(6);
            for (int day : DAYS) {
                told.tell(day);
                for (int i = 0; i <= 8; i++) {
                    told.tell(i == n ? 200 : i == 8 && day == 10000 ? 100 + 20 * n : 100);
                }
            }
        }
        for (int n = 0; n < 8; n++) {
            for (int i = 0; i <= 8; i++) {
                told.tell(i == n ? 200 : 100);
            }
            told.tell(0, 0, 0, 0, 0, 0, 0, 0, 0);
        }
        for (int place = 0; place < 4 * 192; place++) {
            told.tell(place < 3 * 192 ? 0 : 2);
        }
        told.tell(1, 10001, 2, 20002, 3, 30003);
        for (int s = 0; s < 12; s++) {
            told.tell(s % 8, 7 - s % 8, s, 2000, s);
        }
        told.tell(0, 1, 50, 5000, 9999, 10000);
        D.due("digest", full().digest(), told.h);
    }
}
