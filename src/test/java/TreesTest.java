/** Promises 6 to 8: tree, shim, under. */
public final class TreesTest {
    private static final Due D = new Due("TreesTest");

    public static void main(String[] args) {
        tree();
        treeRefuses();
        shimAndUnder();
        theLowestAndTheHighestUnderside();
        aShimIsOfItsStationAlone();
        shimRefuses();
        underRefuses();
        D.end();
    }

    private static void tree() {
        SaddleHouse x = new SaddleHouse();
        Due.row(x, 0, 400, 3, 4, 5, 6, 7, 8, 9);
        D.due("tree()", x.tree(), 0);
        x.height(1, 2);
        D.due("tree()", x.tree(), 1);
        D.due("a tree keeps its row", x.under(0, 1), 400);
        D.due("the next has its own", x.under(1, 1), 2);
        D.due("the row stays", x.height(8, 1), 9);
        D.due("under(0, 0)", x.under(0, 0), 0);
        D.due("under(0, 8)", x.under(0, 8), 9);
    }

    private static void treeRefuses() {
        for (int i = 0; i <= 8; i++) {
            SaddleHouse x = new SaddleHouse();
            x.height(i, Due.NONE);
            long before = Due.told(x);
            D.refused("tree() with a gap at " + i, x, before, x.tree(), Due.OUTSIDE);
        }
        SaddleHouse x = new SaddleHouse();
        for (int n = 0; n < 8; n++) {
            D.due("tree() " + n, x.tree(), n);
        }
        long before = Due.told(x);
        D.refused("tree() 8", x, before, x.tree(), Due.FULL);
        D.refused("shim of a tree 8", x, before, x.shim(8, 0, 1), Due.UNKNOWN);
        D.refused("under of a tree 8", x, before, x.under(8, 0), Due.UNKNOWN);
        D.due("shim of the last", x.shim(7, 0, 1), 0);
        D.due("under of the last", x.under(7, 0), 99);
        x.height(4, Due.NONE);
        D.due("outside comes ahead of full", x.tree(), Due.OUTSIDE);
        D.due("count(1)", x.count(1), 8);
    }

    private static void shimAndUnder() {
        SaddleHouse x = new SaddleHouse();
        Due.row(x, 5, 100, 100, 100, 100, 100, 100, 100, 100);
        x.tree();
        x.tree();
        for (int i = 0; i <= 8; i++) {
            D.due("a shim is 0 at first", x.shim(0, i, i), 0);
        }
        for (int i = 0; i <= 8; i++) {
            D.due("a shim is kept", x.shim(0, i, 20), i);
            D.due("the other tree has none", x.under(1, i), i == 0 ? 5 : 100);
        }
        D.due("an underside below 0", x.under(0, 0), -15);
        D.due("an underside", x.under(0, 1), 80);
        D.due("a shim goes back to 0", x.shim(0, 1, 0), 20);
        D.due("and the underside with it", x.under(0, 1), 100);
        x.shim(0, 0, 6);
        D.due("an underside of -1", x.under(0, 0), -1);
    }

    private static void theLowestAndTheHighestUnderside() {
        SaddleHouse x = new SaddleHouse();
        Due.row(x, 0, 400, 20, 19, 100, 100, 100, 100, 0);
        x.tree();
        for (int i = 0; i <= 8; i++) {
            x.shim(0, i, 20);
        }
        int[] want = {-20, 380, 0, -1, 80, 80, 80, 80, -20};
        for (int i = 0; i <= 8; i++) {
            D.due("the underside with a shim of 20 at " + i, x.under(0, i), want[i]);
        }
        x.shim(0, 1, 0);
        D.due("the highest underside", x.under(0, 1), 400);
        x.shim(0, 1, 1);
        D.due("a shim of 1", x.under(0, 1), 399);
    }

    private static void aShimIsOfItsStationAlone() {
        SaddleHouse x = new SaddleHouse();
        x.tree();
        x.tree();
        D.due("a shim at the first", x.shim(0, 0, 3), 0);
        D.due("a shim at the last", x.shim(1, 8, 4), 0);
        for (int i = 0; i <= 8; i++) {
            D.due("the first tree at " + i, x.under(0, i), i == 0 ? 97 : 100);
            D.due("the second tree at " + i, x.under(1, i), i == 8 ? 96 : 100);
            D.due("the row at hand at " + i, x.height(i, 50), 100);
        }
        D.due("a tree of the row", x.tree(), 2);
        D.due("has no shim", x.shim(2, 0, 0), 0);
        D.due("and the row's height", x.under(2, 0), 50);
    }

    private static void shimRefuses() {
        SaddleHouse x = new SaddleHouse();
        D.due("shim without a tree", x.shim(0, 0, 0), Due.UNKNOWN);
        x.tree();
        x.shim(0, 3, 7);
        long before = Due.told(x);
        int[] unknown = {-1, 1, Due.LOW, Due.HIGH};
        for (int t : unknown) {
            D.refused("shim(" + t + ", 3, 21)", x, before, x.shim(t, 3, 21), Due.UNKNOWN);
        }
        int[] noStations = {-1, 9, Due.LOW, Due.HIGH};
        for (int i : noStations) {
            D.refused("shim(0, " + i + ", -1)", x, before, x.shim(0, i, -1), Due.UNKNOWN);
        }
        int[] noShims = {-1, 21, Due.LOW, Due.HIGH};
        for (int v : noShims) {
            D.refused("shim(0, 3, " + v + ")", x, before, x.shim(0, 3, v), Due.OUTSIDE);
        }
        D.due("the shim stands", x.shim(0, 3, 7), 7);
    }

    private static void underRefuses() {
        SaddleHouse x = new SaddleHouse();
        D.due("under without a tree", x.under(0, 0), Due.UNKNOWN);
        x.tree();
        long before = Due.told(x);
        int[] unknown = {-1, 1, 8, Due.LOW, Due.HIGH};
        for (int t : unknown) {
            D.refused("under(" + t + ", 0)", x, before, x.under(t, 0), Due.UNKNOWN);
        }
        int[] noStations = {-1, 9, Due.LOW, Due.HIGH};
        for (int i : noStations) {
            D.refused("under(0, " + i + ")", x, before, x.under(0, i), Due.UNKNOWN);
        }
    }
}
