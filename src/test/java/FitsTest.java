/** Promises 9 to 11: bears, fault, best. */
public final class FitsTest {
    private static final Due D = new Due("FitsTest");

    public static void main(String[] args) {
        flatSharesAlike();
        firstOfMostBearsLess();
        lessIsTakenFromTheMostEachTime();
        gapsBearNothing();
        heavyAndLight();
        shimsPress();
        gapsAreNotCountedBelowTheLeast();
        eachStationAlone();
        steepOnSteep();
        aDayHasItsOwnBack();
        bearsRefuses();
        presses();
        bridges();
        bridgesOnlyBetween();
        rocks();
        faultsInOrder();
        faultRefuses();
        best();
        bestRefuses();
        D.end();
    }

    private static void bears(String name, SaddleHouse x, int load, int... want) {
        for (int i = 0; i <= 8; i++) {
            D.due(name + ", load " + load + ", station " + i, x.bears(0, 0, 0, load, i), want[i]);
        }
    }

    private static void faults(String name, SaddleHouse x, int load, int m, int... want) {
        for (int what = 0; what < want.length; what++) {
            D.due(name + ", load " + load + ", m " + m + ", what " + what, x.fault(0, 0, 0, load, m, what), want[what]);
        }
    }

    private static void flatSharesAlike() {
        SaddleHouse x = Due.houseWithGaps(0, 0, 0, 0, 0, 0, 0, 0, 0);
        bears("flat", x, 9, 1, 1, 1, 1, 1, 1, 1, 1, 1);
        bears("flat", x, 18, 2, 2, 2, 2, 2, 2, 2, 2, 2);
        bears("flat", x, 1998, 222, 222, 222, 222, 222, 222, 222, 222, 222);
    }

    private static void firstOfMostBearsLess() {
        SaddleHouse x = Due.houseWithGaps(0, 0, 0, 0, 0, 0, 0, 0, 0);
        bears("flat", x, 10, 1, 1, 1, 1, 1, 1, 1, 1, 2);
        bears("flat", x, 17, 1, 2, 2, 2, 2, 2, 2, 2, 2);
        bears("flat", x, 1, 0, 0, 0, 0, 0, 0, 0, 0, 1);
        bears("flat", x, 2000, 222, 222, 222, 222, 222, 222, 222, 223, 223);
    }

    private static void lessIsTakenFromTheMostEachTime() {
        // Depth 3: 1, 2, 3, 3, 2 and nothing else make 11.
        SaddleHouse x = Due.houseWithGaps(2, 1, 0, 0, 1, 5, 5, 5, 5);
        bears("hill", x, 11, 1, 2, 3, 3, 2, 0, 0, 0, 0);
        bears("hill", x, 10, 1, 2, 2, 3, 2, 0, 0, 0, 0);
        bears("hill", x, 9, 1, 2, 2, 2, 2, 0, 0, 0, 0);
        bears("hill", x, 8, 1, 1, 2, 2, 2, 0, 0, 0, 0);
        bears("hill", x, 7, 1, 1, 1, 2, 2, 0, 0, 0, 0);
        bears("hill", x, 6, 0, 1, 2, 2, 1, 0, 0, 0, 0);
    }

    private static void gapsBearNothing() {
        SaddleHouse x = Due.houseWithGaps(0, 300, 300, 300, 300, 300, 300, 300, 0);
        bears("two", x, 600, 300, 0, 0, 0, 0, 0, 0, 0, 300);
        bears("two", x, 601, 297, 1, 1, 1, 1, 1, 1, 1, 297);
        bears("two and others", x, 609, 301, 1, 1, 1, 1, 1, 1, 1, 301);
        bears("two and others", x, 611, 298, 2, 2, 2, 2, 2, 2, 2, 299);
    }

    private static void heavyAndLight() {
        SaddleHouse x = Due.houseWithGaps(300, 300, 300, 300, 0, 300, 300, 300, 300);
        bears("one", x, 1, 0, 0, 0, 0, 1, 0, 0, 0, 0);
        bears("one", x, 300, 0, 0, 0, 0, 300, 0, 0, 0, 0);
        bears("one and others", x, 309, 1, 1, 1, 1, 301, 1, 1, 1, 1);
        bears("one alone, for it bears most", x, 301, 1, 1, 1, 1, 293, 1, 1, 1, 1);
        bears("heaviest", x, 2000, 189, 189, 189, 189, 488, 189, 189, 189, 189);
        D.due("2000 and no more", x.bears(0, 0, 0, 2001, 4), Due.OUTSIDE);
    }

    private static void shimsPress() {
        SaddleHouse x = Due.houseWithGaps(0, 0, 0, 0, 0, 0, 0, 0, 0);
        x.shim(0, 4, 5);
        bears("shimmed", x, 14, 1, 1, 1, 1, 6, 1, 1, 1, 1);
        bears("shimmed", x, 5, 0, 0, 0, 0, 5, 0, 0, 0, 0);
        x.shim(0, 4, 0);
        bears("no more", x, 9, 1, 1, 1, 1, 1, 1, 1, 1, 1);
    }

    private static void gapsAreNotCountedBelowTheLeast() {
        SaddleHouse x = new SaddleHouse();
        x.horse();
        Due.row(x, 400, 399, 400, 400, 400, 400, 400, 400, 400);
        x.measure(0, 0);
        Due.flat(x, 0);
        x.tree();
        bears("a tree far below", x, 8, 1, 0, 1, 1, 1, 1, 1, 1, 1);
        Due.flat(x, 7);
        x.horse();
        x.measure(1, 0);
        D.due("the other horse's back is flat", x.bears(0, 1, 0, 9, 1), 1);
    }

    private static void eachStationAlone() {
        for (int lone = 0; lone <= 8; lone++) {
            int[] gaps = {9, 9, 9, 9, 9, 9, 9, 9, 9};
            gaps[lone] = 0;
            int[] want = new int[9];
            want[lone] = 9;
            bears("alone on " + lone, Due.houseWithGaps(gaps), 9, want);
        }
    }

    private static void steepOnSteep() {
        SaddleHouse x = new SaddleHouse();
        x.horse();
        Due.row(x, 400, 0, 400, 0, 400, 0, 400, 0, 400);
        x.measure(0, 0);
        x.tree();
        bears("the same shape", x, 9, 1, 1, 1, 1, 1, 1, 1, 1, 1);
        Due.row(x, 0, 400, 0, 400, 0, 400, 0, 400, 0);
        x.tree();
        x.measure(0, 1);
        D.due("the other shape", x.bears(1, 0, 1, 9, 8), 1);
        D.due("one on the other", x.bears(1, 0, 0, 2000, 0), 400);
        D.due("one on the other", x.bears(1, 0, 0, 2000, 1), 0);
        D.due("the other on the one", x.bears(0, 0, 1, 2000, 7), 500);
        D.due("the other on the one", x.bears(0, 0, 1, 2000, 8), 0);
    }

    private static void aDayHasItsOwnBack() {
        SaddleHouse x = Due.houseWithGaps(0, 0, 0, 0, 0, 0, 0, 0, 0);
        Due.row(x, 102, 100, 100, 100, 100, 100, 100, 100, 100);
        x.measure(0, 7);
        D.due("day 6", x.bears(0, 0, 6, 9, 0), 1);
        D.due("day 7", x.bears(0, 0, 7, 11, 0), 3);
        D.due("day 10000", x.bears(0, 0, 10000, 2, 0), 2);
    }

    private static void bearsRefuses() {
        SaddleHouse x = new SaddleHouse();
        x.horse();
        x.measure(0, 5);
        D.due("bears without a tree", x.bears(0, 0, 5, 1, 0), Due.UNKNOWN);
        x.tree();
        long before = Due.told(x);
        int[] unknown = {-1, 1, Due.LOW, Due.HIGH};
        for (int n : unknown) {
            D.refused("bears tree " + n, x, before, x.bears(n, 0, -1, 0, 0), Due.UNKNOWN);
            D.refused("bears horse " + n, x, before, x.bears(0, n, -1, 0, 0), Due.UNKNOWN);
        }
        int[] noStations = {-1, 9, Due.LOW, Due.HIGH};
        for (int i : noStations) {
            D.refused("bears station " + i, x, before, x.bears(0, 0, -1, 0, i), Due.UNKNOWN);
        }
        int[] noDays = {-1, 10001, Due.LOW, Due.HIGH};
        for (int day : noDays) {
            D.refused("bears day " + day, x, before, x.bears(0, 0, day, 1, 0), Due.OUTSIDE);
        }
        int[] noLoads = {0, -1, 2001, Due.LOW, Due.HIGH};
        for (int load : noLoads) {
            D.refused("bears load " + load, x, before, x.bears(0, 0, 4, load, 0), Due.OUTSIDE);
        }
        D.refused("bears without a back", x, before, x.bears(0, 0, 4, 1, 0), Due.STATE);
        D.due("bears on the first day", x.bears(0, 0, 5, 9, 0), 1);
    }

    private static void presses() {
        SaddleHouse x = Due.houseWithGaps(2, 2, 1, 0, 2, 0, 2, 2, 2);
        faults("as much as m", x, 14, 3, 0, Due.NONE, 3, 9);
        faults("more than m", x, 14, 2, 1, 3, 3, 9);
        faults("the first that bears more", x, 14, 1, 1, 2, 3, 9);
        faults("m of 2000", x, 2000, 2000, 0, Due.NONE, 223, 9);
        x = Due.houseWithGaps(0, 1, 1, 1, 1, 1, 1, 1, 1);
        faults("at the first station", x, 10, 1, 1, 0, 2, 9);
        x = Due.houseWithGaps(1, 1, 1, 1, 1, 1, 1, 1, 0);
        faults("at the last station", x, 10, 1, 1, 8, 2, 9);
    }

    private static void bridges() {
        SaddleHouse x = Due.houseWithGaps(0, 0, 0, 9, 9, 9, 0, 0, 0);
        faults("three", x, 6, 9, 2, 3, 1, 6);
        x = Due.houseWithGaps(0, 0, 0, 9, 9, 0, 0, 0, 0);
        faults("two do not bridge", x, 7, 9, 0, Due.NONE, 1, 7);
        x = Due.houseWithGaps(0, 9, 9, 9, 9, 9, 9, 9, 0);
        faults("seven", x, 2, 9, 2, 1, 1, 2);
        x = Due.houseWithGaps(0, 9, 9, 0, 9, 9, 9, 0, 9);
        faults("behind two the three", x, 3, 9, 2, 4, 1, 3);
        x = Due.houseWithGaps(0, 9, 9, 9, 0, 9, 9, 9, 0);
        faults("the first of two threes", x, 3, 9, 2, 1, 1, 3);
        // Depth 1 would press all three, but the first bears one less, and so nothing.
        faults("one that bears nothing any more is not pressed", x, 2, 9, 2, 5, 1, 2);
    }

    private static void bridgesOnlyBetween() {
        SaddleHouse x = Due.houseWithGaps(9, 9, 9, 0, 0, 0, 0, 9, 9);
        faults("three ahead of all that is pressed", x, 4, 9, 3, 0, 1, 4);
        x = Due.houseWithGaps(9, 9, 0, 0, 0, 9, 9, 9, 9);
        faults("four behind all that is pressed", x, 3, 9, 3, 6, 1, 3);
        x = Due.houseWithGaps(9, 9, 0, 9, 9, 0, 0, 9, 9);
        faults("two at each end", x, 3, 9, 0, Due.NONE, 1, 3);
    }

    private static void rocks() {
        SaddleHouse x = Due.houseWithGaps(9, 9, 9, 9, 0, 9, 9, 9, 9);
        faults("on one in the middle", x, 5, 9, 3, 0, 5, 1);
        x = Due.houseWithGaps(9, 9, 9, 0, 9, 9, 0, 9, 9);
        faults("none of 0 to 2", x, 5, 9, 3, 0, 3, 2);
        x = Due.houseWithGaps(9, 9, 0, 9, 0, 0, 9, 9, 9);
        faults("none of 6 to 8", x, 5, 9, 3, 6, 2, 3);
        x = Due.houseWithGaps(9, 9, 0, 9, 9, 0, 9, 9, 0);
        faults("2 and 8", x, 5, 9, 0, Due.NONE, 2, 3);
        x = Due.houseWithGaps(0, 9, 9, 0, 9, 9, 0, 9, 9);
        faults("0 and 6", x, 5, 9, 0, Due.NONE, 2, 3);
        x = Due.houseWithGaps(9, 0, 9, 9, 0, 9, 9, 0, 9);
        faults("1 and 7", x, 5, 9, 0, Due.NONE, 2, 3);
    }

    private static void faultsInOrder() {
        SaddleHouse x = Due.houseWithGaps(9, 9, 9, 0, 9, 9, 9, 1, 9);
        faults("presses, bridges and rocks", x, 5, 2, 1, 3, 3, 2);
        faults("bridges and rocks", x, 5, 3, 2, 4, 3, 2);
        x.shim(0, 4, 9);
        x.shim(0, 5, 9);
        faults("rocks", x, 5, 3, 3, 0, 2, 4);
    }

    private static void faultRefuses() {
        SaddleHouse x = new SaddleHouse();
        x.horse();
        x.measure(0, 5);
        D.due("fault without a tree", x.fault(0, 0, 5, 1, 1, 0), Due.UNKNOWN);
        x.tree();
        long before = Due.told(x);
        int[] unknown = {-1, 1, Due.LOW, Due.HIGH};
        for (int n : unknown) {
            D.refused("fault tree " + n, x, before, x.fault(n, 0, -1, 0, 0, 4), Due.UNKNOWN);
            D.refused("fault horse " + n, x, before, x.fault(0, n, -1, 0, 0, 4), Due.UNKNOWN);
        }
        int[] noDays = {-1, 10001, Due.LOW, Due.HIGH};
        for (int day : noDays) {
            D.refused("fault day " + day, x, before, x.fault(0, 0, day, 1, 1, 0), Due.OUTSIDE);
        }
        int[] noLoads = {0, -1, 2001, Due.LOW, Due.HIGH};
        for (int load : noLoads) {
            D.refused("fault load " + load, x, before, x.fault(0, 0, 4, load, 1, 0), Due.OUTSIDE);
            D.refused("fault m " + load, x, before, x.fault(0, 0, 4, 1, load, 0), Due.OUTSIDE);
        }
        int[] noWhats = {-1, 4, Due.LOW, Due.HIGH};
        for (int what : noWhats) {
            D.refused("fault what " + what, x, before, x.fault(0, 0, 4, 1, 1, what), Due.OUTSIDE);
        }
        D.refused("fault without a back", x, before, x.fault(0, 0, 4, 1, 1, 0), Due.STATE);
    }

    private static void best() {
        SaddleHouse x = new SaddleHouse();
        x.horse();
        x.measure(0, 0);
        D.due("best without trees", x.best(0, 0, 90, 2000), Due.NONE);
        Due.row(x, 100, 110, 110, 110, 110, 110, 110, 110, 100);
        x.tree();
        D.due("the only one bridges", x.best(0, 0, 10, 2000), Due.NONE);
        D.due("and with more load does not", x.best(0, 0, 90, 2000), 0);
        Due.row(x, 100, 103, 100, 103, 100, 103, 100, 103, 100);
        x.tree();
        D.due("one with less", x.best(0, 0, 90, 2000), 1);
        Due.row(x, 103, 100, 103, 100, 103, 100, 103, 100, 102);
        x.tree();
        D.due("of like ones the first", x.best(0, 0, 90, 2000), 1);
        D.due("of like ones the first, m just so", x.best(0, 0, 90, 11), 1);
        D.due("none within m", x.best(0, 0, 90, 10), Due.NONE);
        Due.row(x, 110, 110, 110, 100, 100, 100, 100, 100, 100);
        x.tree();
        D.due("one with less that rocks is not taken", x.best(0, 0, 12, 2000), 1);
    }

    private static void bestRefuses() {
        SaddleHouse x = new SaddleHouse();
        D.due("best without a horse", x.best(0, 0, 1, 1), Due.UNKNOWN);
        x.horse();
        x.measure(0, 5);
        x.tree();
        long before = Due.told(x);
        int[] unknown = {-1, 1, Due.LOW, Due.HIGH};
        for (int n : unknown) {
            D.refused("best horse " + n, x, before, x.best(n, -1, 0, 0), Due.UNKNOWN);
        }
        int[] noDays = {-1, 10001, Due.LOW, Due.HIGH};
        for (int day : noDays) {
            D.refused("best day " + day, x, before, x.best(0, day, 1, 1), Due.OUTSIDE);
        }
        int[] noLoads = {0, -1, 2001, Due.LOW, Due.HIGH};
        for (int load : noLoads) {
            D.refused("best load " + load, x, before, x.best(0, 4, load, 1), Due.OUTSIDE);
            D.refused("best m " + load, x, before, x.best(0, 4, 1, load), Due.OUTSIDE);
        }
        D.refused("best without a back", x, before, x.best(0, 4, 1, 1), Due.STATE);
        D.due("best on the first day", x.best(0, 5, 9, 1), 0);
    }
}
