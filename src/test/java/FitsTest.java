import java.util.function.ToLongFunction;

/** Promises 9 to 11: bears, fault, best. */
public final class FitsTest {
    private static final Due D = new Due("FitsTest");
    private static final int[] UNKNOWN_NUMBERS = {-1, 1, Due.LOW, Due.HIGH};
    private static final int[] NO_DAYS = {-1, 10001, Due.LOW, Due.HIGH};
    private static final int[] NO_LOADS = {0, -1, 2001, Due.LOW, Due.HIGH};

    public static void main(String[] args) {
        flatSharesAlike();
        firstOfMostBearsLess();
        lessIsTakenFromTheMostEachTime();
        gapsBearNothing();
        heavyAndLight();
        shimsPress();
        gapsAreNotCountedBelowTheLeast();
        eachStationAlone();
        steepOnSteep();
        theWidestGap();
        theLeastLoad();
        theGreatestLoad();
        aDayHasItsOwnBack();
        bearsRefuses();
        presses();
        bridges();
        bridgesOnlyBetween();
        rocks();
        faultsInOrder();
        faultRefuses();
        best();
        bestOfEight();
        bestRefuses();
        D.end();
    }

    private static void bears(String name, SaddleHouse x, int load, int... want) {
        for (int i = 0; i <= 8; i++) {
            D.due(name + ", load " + load + ", station " + i, x.bears(0, 0, 0, load, i), want[i]);
        }
    }

    private static void faults(String name, SaddleHouse x, int load, int m, int... want) {
        for (int what = 0; what < want.length; what++) {
            D.due(name + ", load " + load + ", m " + m + ", what " + what, x.fault(0, 0, 0, load, m, what), want[what]);
        }
    }

    private static void flatSharesAlike() {
        SaddleHouse x = Due.houseWithGaps(0, 0, 0, 0, 0, 0, 0, 0, 0);
        bears("flat", x, 9, 1, 1, 1, 1, 1, 1, 1, 1, 1);
        bears("flat", x, 18, 2, 2, 2, 2, 2, 2, 2, 2, 2);
        bears("flat", x, 1998, 222, 222, 222, 222, 222, 222, 222, 222, 222);
    }

    private static void firstOfMostBearsLess() {
        SaddleHouse x = Due.houseWithGaps(0, 0, 0, 0, 0, 0, 0, 0, 0);
        bears("flat", x, 10, 1, 1, 1, 1, 1, 1, 1, 1, 2);
        bears("flat", x, 17, 1, 2, 2, 2, 2, 2, 2, 2, 2);
        bears("flat", x, 1, 0, 0, 0, 0, 0, 0, 0, 0, 1);
        bears("flat", x, 2000, 222, 222, 222, 222, 222, 222, 222, 223, 223);
    }

    private static void lessIsTakenFromTheMostEachTime() {
        // Depth 3: 1, 2, 3, 3, 2 and nothing else make 11.
        SaddleHouse x = Due.houseWithGaps(2, 1, 0, 0, 1, 5, 5, 5, 5);
        bears("hill", x, 11, 1, 2, 3, 3, 2, 0, 0, 0, 0);
        bears("hill", x, 10, 1, 2, 2, 3, 2, 0, 0, 0, 0);
        bears("hill", x, 9, 1, 2, 2, 2, 2, 0, 0, 0, 0);
        bears("hill", x, 8, 1, 1, 2, 2, 2, 0, 0, 0, 0);
        bears("hill", x, 7, 1, 1, 1, 2, 2, 0, 0, 0, 0);
        bears("hill", x, 6, 0, 1, 2, 2, 1, 0, 0, 0, 0);
    }

    private static void gapsBearNothing() {
        SaddleHouse x = Due.houseWithGaps(0, 300, 300, 300, 300, 300, 300, 300, 0);
        bears("two", x, 600, 300, 0, 0, 0, 0, 0, 0, 0, 300);
        bears("two", x, 601, 297, 1, 1, 1, 1, 1, 1, 1, 297);
        bears("two and others", x, 609, 301, 1, 1, 1, 1, 1, 1, 1, 301);
        bears("two and others", x, 611, 298, 2, 2, 2, 2, 2, 2, 2, 299);
    }

    private static void heavyAndLight() {
        SaddleHouse x = Due.houseWithGaps(300, 300, 300, 300, 0, 300, 300, 300, 300);
        bears("one", x, 1, 0, 0, 0, 0, 1, 0, 0, 0, 0);
        bears("one", x, 300, 0, 0, 0, 0, 300, 0, 0, 0, 0);
        bears("one and others", x, 309, 1, 1, 1, 1, 301, 1, 1, 1, 1);
        bears("one alone, for it bears most", x, 301, 1, 1, 1, 1, 293, 1, 1, 1, 1);
        bears("heaviest", x, 2000, 189, 189, 189, 189, 488, 189, 189, 189, 189);
        D.due("2000 and no more", x.bears(0, 0, 0, 2001, 4), Due.OUTSIDE);
    }

    private static void shimsPress() {
        SaddleHouse x = Due.houseWithGaps(0, 0, 0, 0, 0, 0, 0, 0, 0);
        x.shim(0, 4, 5);
        bears("shimmed", x, 14, 1, 1, 1, 1, 6, 1, 1, 1, 1);
        bears("shimmed", x, 5, 0, 0, 0, 0, 5, 0, 0, 0, 0);
        x.shim(0, 4, 0);
        bears("no more", x, 9, 1, 1, 1, 1, 1, 1, 1, 1, 1);
    }

    private static void gapsAreNotCountedBelowTheLeast() {
        SaddleHouse x = new SaddleHouse();
        x.horse();
        Due.row(x, 400, 399, 400, 400, 400, 400, 400, 400, 400);
        x.measure(0, 0);
        Due.flat(x, 0);
        x.tree();
        bears("a tree far below", x, 8, 1, 0, 1, 1, 1, 1, 1, 1, 1);
        Due.flat(x, 7);
        x.horse();
        x.measure(1, 0);
        D.due("the other horse's back is flat", x.bears(0, 1, 0, 9, 1), 1);
    }

    private static void eachStationAlone() {
        for (int lone = 0; lone <= 8; lone++) {
            int[] gaps = {9, 9, 9, 9, 9, 9, 9, 9, 9};
            gaps[lone] = 0;
            int[] want = new int[9];
            want[lone] = 9;
            bears("alone on " + lone, Due.houseWithGaps(gaps), 9, want);
        }
    }

    private static void steepOnSteep() {
        SaddleHouse x = new SaddleHouse();
        x.horse();
        Due.row(x, 400, 0, 400, 0, 400, 0, 400, 0, 400);
        x.measure(0, 0);
        x.tree();
        bears("the same shape", x, 9, 1, 1, 1, 1, 1, 1, 1, 1, 1);
        Due.row(x, 0, 400, 0, 400, 0, 400, 0, 400, 0);
        x.tree();
        x.measure(0, 1);
        D.due("the other shape", x.bears(1, 0, 1, 9, 8), 1);
        D.due("one on the other", x.bears(1, 0, 0, 2000, 0), 400);
        D.due("one on the other", x.bears(1, 0, 0, 2000, 1), 0);
        D.due("the other on the one", x.bears(0, 0, 1, 2000, 7), 500);
        D.due("the other on the one", x.bears(0, 0, 1, 2000, 8), 0);
    }

    /** An underside of -20 on a height of 400, and of 400 on a height of 0: a gap of 820. */
    private static void theWidestGap() {
        SaddleHouse x = new SaddleHouse();
        x.horse();
        Due.row(x, 0, 0, 0, 0, 400, 0, 0, 0, 0);
        x.measure(0, 0);
        Due.row(x, 400, 400, 400, 400, 0, 400, 400, 400, 400);
        x.tree();
        x.shim(0, 4, 20);
        bears("as much as the gap", x, 820, 0, 0, 0, 0, 820, 0, 0, 0, 0);
        bears("one more, of nine", x, 821, 1, 1, 1, 1, 813, 1, 1, 1, 1);
        bears("eight more, of nine", x, 828, 1, 1, 1, 1, 820, 1, 1, 1, 1);
        bears("nine more, of nine", x, 829, 1, 1, 1, 1, 821, 1, 1, 1, 1);
        bears("the greatest load", x, 2000, 132, 132, 132, 132, 944, 132, 132, 132, 132);
        faults("on one station", x, 820, 820, 3, 0, 820, 1);
        faults("on one station, too much", x, 820, 819, 1, 4, 820, 1);
        faults("on all", x, 821, 813, 0, Due.NONE, 813, 9);
    }

    private static void theLeastLoad() {
        SaddleHouse x = Due.houseWithGaps(0, 0, 0, 0, 0, 0, 0, 0, 0);
        faults("the last of nine bears 1", x, 1, 1, 3, 0, 1, 1);
        x = Due.houseWithGaps(0, 1, 1, 1, 1, 1, 1, 1, 1);
        bears("the only one", x, 1, 1, 0, 0, 0, 0, 0, 0, 0, 0);
        faults("the only one, ahead", x, 1, 1, 3, 6, 1, 1);
        x = Due.houseWithGaps(0, 0, 1, 1, 1, 1, 1, 1, 1);
        bears("the last of two", x, 1, 0, 1, 0, 0, 0, 0, 0, 0, 0);
        bears("both of two", x, 2, 1, 1, 0, 0, 0, 0, 0, 0, 0);
    }

    private static void theGreatestLoad() {
        SaddleHouse x = Due.houseWithGaps(0, 300, 300, 300, 300, 300, 300, 300, 0);
        bears("456 on two, less four", x, 2000, 454, 156, 156, 156, 156, 156, 156, 156, 454);
        faults("as much as m", x, 2000, 454, 0, Due.NONE, 454, 9);
        faults("more than m", x, 2000, 453, 1, 0, 454, 9);
        faults("more than the least m", x, 2000, 1, 1, 0, 454, 9);
    }

    private static void aDayHasItsOwnBack() {
        SaddleHouse x = Due.houseWithGaps(0, 0, 0, 0, 0, 0, 0, 0, 0);
        Due.row(x, 102, 100, 100, 100, 100, 100, 100, 100, 100);
        x.measure(0, 7);
        D.due("day 6", x.bears(0, 0, 6, 9, 0), 1);
        D.due("day 7", x.bears(0, 0, 7, 11, 0), 3);
        D.due("day 10000", x.bears(0, 0, 10000, 2, 0), 2);
        D.due("fault on day 0", x.fault(0, 0, 0, 11, 2, 0), 0);
        D.due("fault on day 6", x.fault(0, 0, 6, 11, 2, 0), 0);
        D.due("fault on day 7", x.fault(0, 0, 7, 11, 2, 0), 1);
        D.due("fault on day 10000", x.fault(0, 0, 10000, 11, 2, 1), 0);
        D.due("best on day 0", x.best(0, 0, 11, 2), 0);
        D.due("best on day 6", x.best(0, 6, 11, 2), 0);
        D.due("best on day 7", x.best(0, 7, 11, 2), Due.NONE);
        D.due("best on day 10000", x.best(0, 10000, 11, 3), 0);
    }

    /** Horse 0 has a back from day 5 on; a horse 1 and a tree 1 there are not. */
    private static SaddleHouse oneOfEach() {
        SaddleHouse x = new SaddleHouse();
        x.horse();
        x.measure(0, 5);
        x.tree();
        return x;
    }

    private static void fitRefuses(String call, ToLongFunction<SaddleHouse> ask, long want) {
        D.refused(call, FitsTest::oneOfEach, ask, want);
    }

    private static void bearsRefuses() {
        SaddleHouse x = new SaddleHouse();
        x.horse();
        x.measure(0, 5);
        D.due("bears without a tree", x.bears(0, 0, 5, 1, 0), Due.UNKNOWN);
        for (int n : UNKNOWN_NUMBERS) {
            fitRefuses("bears tree " + n, h -> h.bears(n, 0, 5, 1, 0), Due.UNKNOWN);
            fitRefuses("bears horse " + n, h -> h.bears(0, n, 5, 1, 0), Due.UNKNOWN);
        }
        int[] noStations = {-1, 9, Due.LOW, Due.HIGH};
        for (int i : noStations) {
            fitRefuses("bears station " + i, h -> h.bears(0, 0, 5, 1, i), Due.UNKNOWN);
        }
        for (int day : NO_DAYS) {
            fitRefuses("bears day " + day, h -> h.bears(0, 0, day, 1, 0), Due.OUTSIDE);
        }
        for (int load : NO_LOADS) {
            fitRefuses("bears load " + load, h -> h.bears(0, 0, 5, load, 0), Due.OUTSIDE);
        }
        fitRefuses("bears without a back", h -> h.bears(0, 0, 4, 1, 0), Due.STATE);
        D.due("bears on the first day", oneOfEach().bears(0, 0, 5, 9, 0), 1);
    }

    private static void presses() {
        SaddleHouse x = Due.houseWithGaps(2, 2, 1, 0, 2, 0, 2, 2, 2);
        faults("as much as m", x, 14, 3, 0, Due.NONE, 3, 9);
        faults("more than m", x, 14, 2, 1, 3, 3, 9);
        faults("the first that bears more", x, 14, 1, 1, 2, 3, 9);
        faults("m of 2000", x, 2000, 2000, 0, Due.NONE, 223, 9);
        x = Due.houseWithGaps(0, 1, 1, 1, 1, 1, 1, 1, 1);
        faults("at the first station", x, 10, 1, 1, 0, 2, 9);
        x = Due.houseWithGaps(1, 1, 1, 1, 1, 1, 1, 1, 0);
        faults("at the last station", x, 10, 1, 1, 8, 2, 9);
    }

    private static void bridges() {
        SaddleHouse x = Due.houseWithGaps(0, 0, 0, 9, 9, 9, 0, 0, 0);
        faults("three", x, 6, 9, 2, 3, 1, 6);
        x = Due.houseWithGaps(0, 0, 0, 9, 9, 0, 0, 0, 0);
        faults("two do not bridge", x, 7, 9, 0, Due.NONE, 1, 7);
        x = Due.houseWithGaps(0, 9, 9, 9, 9, 9, 9, 9, 0);
        faults("seven", x, 2, 9, 2, 1, 1, 2);
        x = Due.houseWithGaps(0, 9, 9, 0, 9, 9, 9, 0, 9);
        faults("behind two the three", x, 3, 9, 2, 4, 1, 3);
        x = Due.houseWithGaps(0, 9, 9, 9, 0, 9, 9, 9, 0);
        faults("the first of two threes", x, 3, 9, 2, 1, 1, 3);
        // Depth 1 would press all three, but the first bears one less, and so nothing.
        faults("one that bears nothing any more is not pressed", x, 2, 9, 2, 5, 1, 2);
    }

    private static void bridgesOnlyBetween() {
        SaddleHouse x = Due.houseWithGaps(9, 9, 9, 0, 0, 0, 0, 9, 9);
        faults("three ahead of all that is pressed", x, 4, 9, 3, 0, 1, 4);
        x = Due.houseWithGaps(9, 9, 0, 0, 0, 9, 9, 9, 9);
        faults("four behind all that is pressed", x, 3, 9, 3, 6, 1, 3);
        x = Due.houseWithGaps(9, 9, 0, 9, 9, 0, 0, 9, 9);
        faults("two at each end", x, 3, 9, 0, Due.NONE, 1, 3);
    }

    private static void rocks() {
        SaddleHouse x = Due.houseWithGaps(9, 9, 9, 9, 0, 9, 9, 9, 9);
        faults("on one in the middle", x, 5, 9, 3, 0, 5, 1);
        x = Due.houseWithGaps(9, 9, 9, 0, 9, 9, 0, 9, 9);
        faults("none of 0 to 2", x, 5, 9, 3, 0, 3, 2);
        x = Due.houseWithGaps(9, 9, 0, 9, 0, 0, 9, 9, 9);
        faults("none of 6 to 8", x, 5, 9, 3, 6, 2, 3);
        x = Due.houseWithGaps(9, 9, 0, 9, 9, 0, 9, 9, 0);
        faults("2 and 8", x, 5, 9, 0, Due.NONE, 2, 3);
        x = Due.houseWithGaps(0, 9, 9, 0, 9, 9, 0, 9, 9);
        faults("0 and 6", x, 5, 9, 0, Due.NONE, 2, 3);
        x = Due.houseWithGaps(9, 0, 9, 9, 0, 9, 9, 0, 9);
        faults("1 and 7", x, 5, 9, 0, Due.NONE, 2, 3);
    }

    private static void faultsInOrder() {
        SaddleHouse x = Due.houseWithGaps(9, 9, 9, 0, 9, 9, 9, 1, 9);
        faults("presses, bridges and rocks", x, 5, 2, 1, 3, 3, 2);
        faults("bridges and rocks", x, 5, 3, 2, 4, 3, 2);
        x.shim(0, 4, 9);
        x.shim(0, 5, 9);
        faults("rocks", x, 5, 3, 3, 0, 2, 4);
    }

    private static void faultRefuses() {
        SaddleHouse x = new SaddleHouse();
        x.horse();
        x.measure(0, 5);
        D.due("fault without a tree", x.fault(0, 0, 5, 1, 1, 0), Due.UNKNOWN);
        for (int n : UNKNOWN_NUMBERS) {
            fitRefuses("fault tree " + n, h -> h.fault(n, 0, 5, 1, 1, 0), Due.UNKNOWN);
            fitRefuses("fault horse " + n, h -> h.fault(0, n, 5, 1, 1, 0), Due.UNKNOWN);
        }
        for (int day : NO_DAYS) {
            fitRefuses("fault day " + day, h -> h.fault(0, 0, day, 1, 1, 0), Due.OUTSIDE);
        }
        for (int load : NO_LOADS) {
            fitRefuses("fault load " + load, h -> h.fault(0, 0, 5, load, 1, 0), Due.OUTSIDE);
            fitRefuses("fault m " + load, h -> h.fault(0, 0, 5, 1, load, 0), Due.OUTSIDE);
        }
        int[] noWhats = {-1, 4, Due.LOW, Due.HIGH};
        for (int what : noWhats) {
            fitRefuses("fault what " + what, h -> h.fault(0, 0, 5, 1, 1, what), Due.OUTSIDE);
        }
        for (int what = 0; what <= 3; what++) {
            int each = what;
            fitRefuses("fault without a back, what " + what, h -> h.fault(0, 0, 4, 1, 1, each), Due.STATE);
        }
    }

    private static void best() {
        SaddleHouse x = new SaddleHouse();
        x.horse();
        x.measure(0, 0);
        D.due("best without trees", x.best(0, 0, 90, 2000), Due.NONE);
        Due.row(x, 100, 110, 110, 110, 110, 110, 110, 110, 100);
        x.tree();
        D.due("the only one bridges", x.best(0, 0, 10, 2000), Due.NONE);
        D.due("and with more load does not", x.best(0, 0, 90, 2000), 0);
        Due.row(x, 100, 103, 100, 103, 100, 103, 100, 103, 100);
        x.tree();
        D.due("one with less", x.best(0, 0, 90, 2000), 1);
        Due.row(x, 103, 100, 103, 100, 103, 100, 103, 100, 102);
        x.tree();
        D.due("of like ones the first", x.best(0, 0, 90, 2000), 1);
        D.due("of like ones the first, m just so", x.best(0, 0, 90, 11), 1);
        D.due("none within m", x.best(0, 0, 90, 10), Due.NONE);
        Due.row(x, 110, 110, 110, 100, 100, 100, 100, 100, 100);
        x.tree();
        D.due("one with less that rocks is not taken", x.best(0, 0, 12, 2000), 1);
    }

    /** Eight trees, each two alike and lower in the middle than the two ahead. */
    private static void bestOfEight() {
        SaddleHouse x = new SaddleHouse();
        x.horse();
        x.measure(0, 0);
        for (int t = 0; t < 8; t++) {
            Due.flat(x, 100);
            x.height(4, 100 - t / 2);
            x.tree();
        }
        D.due("all bear 1", x.best(0, 0, 9, 2000), 0);
        x.shim(0, 4, 9);
        D.due("the first rocks", x.best(0, 0, 9, 2000), 1);
        for (int t = 1; t < 7; t++) {
            x.shim(t, 4, 20);
        }
        D.due("all rock but the last", x.best(0, 0, 9, 2000), 7);
        D.due("which bears least where all fit", x.best(0, 0, 90, 2000), 7);
        D.due("10, and no more than m", x.best(0, 0, 90, 10), 7);
        D.due("10, more than m", x.best(0, 0, 90, 9), Due.NONE);
        x.shim(7, 4, 20);
        D.due("18 of the first, 26 of the others", x.best(0, 0, 90, 2000), 0);
        D.due("18, more than m", x.best(0, 0, 90, 17), Due.NONE);
        D.due("all rock", x.best(0, 0, 9, 2000), Due.NONE);
    }

    private static void bestRefuses() {
        D.due("best without a horse", new SaddleHouse().best(0, 0, 1, 1), Due.UNKNOWN);
        for (int n : UNKNOWN_NUMBERS) {
            fitRefuses("best horse " + n, h -> h.best(n, 5, 1, 1), Due.UNKNOWN);
        }
        for (int day : NO_DAYS) {
            fitRefuses("best day " + day, h -> h.best(0, day, 1, 1), Due.OUTSIDE);
        }
        for (int load : NO_LOADS) {
            fitRefuses("best load " + load, h -> h.best(0, 5, load, 1), Due.OUTSIDE);
            fitRefuses("best m " + load, h -> h.best(0, 5, 1, load), Due.OUTSIDE);
        }
        fitRefuses("best without a back", h -> h.best(0, 4, 1, 1), Due.STATE);
        D.due("best on the first day", oneOfEach().best(0, 5, 9, 1), 0);
    }
}
