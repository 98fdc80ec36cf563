/** Promises 16 to 20: hide, flaw, cut, pair, patch. */
public final class HidesTest {
    private static final Due D = new Due("HidesTest");

    public static void main(String[] args) {
        hide();
        flaw();
        flawAtTheCorners();
        flawRefuses();
        cutRowByRow();
        noPieceGoesAroundTheEdge();
        theSmallestAndTheGreatestPieces();
        cutAroundFlaws();
        cutWhole();
        cutRefuses();
        pair();
        pairBothOrNone();
        pairsToTheLastPatch();
        thePairsSecondMayTouchTheFirst();
        pairRefuses();
        patchRefuses();
        D.end();
    }

    private static void hide() {
        SaddleHouse x = new SaddleHouse();
        for (int n = 0; n < 4; n++) {
            D.due("hide() " + n, x.hide(), n);
        }
        for (int y = 0; y < 12; y++) {
            for (int col = 0; col < 16; col++) {
                D.due("a patch of a new hide", x.patch(3, col, y), 0);
            }
        }
        long before = Due.told(x);
        D.refused("hide() 4", x, before, x.hide(), Due.FULL);
        D.refused("flaw of a hide 4", x, before, x.flaw(4, 0, 0), Due.UNKNOWN);
        D.refused("cut of a hide 4", x, before, x.cut(4, 1, 1), Due.UNKNOWN);
        D.refused("pair of a hide 4", x, before, x.pair(4, 1, 1), Due.UNKNOWN);
        D.refused("patch of a hide 4", x, before, x.patch(4, 0, 0), Due.UNKNOWN);
        D.due("cut of the last", x.cut(3, 1, 1), 0);
        D.due("count(2)", x.count(2), 4);
    }

    private static void flaw() {
        SaddleHouse x = new SaddleHouse();
        x.hide();
        x.hide();
        D.due("flaw at a corner", x.flaw(0, 15, 11), 0);
        D.due("flaw there again", x.flaw(0, 15, 11), 1);
        D.due("flaw at 0", x.flaw(0, 0, 0), 0);
        D.due("patch(0, 15, 11)", x.patch(0, 15, 11), 1);
        D.due("patch(0, 0, 0)", x.patch(0, 0, 0), 1);
        D.due("its neighbour", x.patch(0, 14, 11), 0);
        D.due("the other hide", x.patch(1, 15, 11), 0);
        D.due("x is the column", x.flaw(0, 12, 3), 0);
        D.due("patch(0, 12, 3)", x.patch(0, 12, 3), 1);
        D.due("patch(0, 3, 11)", x.patch(0, 3, 11), 0);
    }

    private static void flawAtTheCorners() {
        SaddleHouse x = new SaddleHouse();
        x.hide();
        int[] places = {0, 15, 176, 191};
        for (int place : places) {
            D.due("flaw at " + place, x.flaw(0, place % 16, place / 16), 0);
        }
        int flaws = 0;
        for (int place = 0; place < 192; place++) {
            flaws += x.patch(0, place % 16, place / 16);
        }
        D.due("four flaws and no more", flaws, 4);
        D.due("14 by 12 between", x.cut(0, 14, 12), 1);
        D.due("1 by 10 at the left", x.cut(0, 1, 10), 16);
        D.due("1 by 10 at the right", x.cut(0, 1, 10), 31);
        D.due("nothing but the flaws is left", x.cut(0, 1, 1), Due.NONE);
        for (int place : places) {
            D.due("the flaw at " + place + " is still there", x.flaw(0, place % 16, place / 16), 1);
        }
        D.due("count(6)", x.count(6), 188);
    }

    private static void flawRefuses() {
        SaddleHouse x = new SaddleHouse();
        D.due("flaw without a hide", x.flaw(0, 0, 0), Due.UNKNOWN);
        x.hide();
        x.cut(0, 2, 1);
        long before = Due.told(x);
        int[] noHides = {-1, 1, Due.LOW, Due.HIGH};
        for (int h : noHides) {
            D.refused("flaw hide " + h, x, before, x.flaw(h, 0, 0), Due.UNKNOWN);
        }
        int[] noColumns = {-1, 16, Due.LOW, Due.HIGH};
        for (int col : noColumns) {
            D.refused("flaw x " + col, x, before, x.flaw(0, col, 5), Due.UNKNOWN);
        }
        int[] noRows = {-1, 12, Due.LOW, Due.HIGH};
        for (int y : noRows) {
            D.refused("flaw y " + y, x, before, x.flaw(0, 5, y), Due.UNKNOWN);
        }
        D.refused("flaw of a patch that is cut", x, before, x.flaw(0, 1, 0), Due.STATE);
        D.due("it is cut", x.patch(0, 1, 0), 2);
    }

    private static void cutRowByRow() {
        SaddleHouse x = new SaddleHouse();
        x.hide();
        D.due("cut 10 by 2", x.cut(0, 10, 2), 0);
        D.due("cut 6 by 1", x.cut(0, 6, 1), 10);
        D.due("cut 6 by 2, below", x.cut(0, 6, 2), 26);
        D.due("cut 7 by 1", x.cut(0, 7, 1), 32);
        D.due("cut 3 by 1", x.cut(0, 3, 1), 39);
        D.due("cut 1 by 1", x.cut(0, 1, 1), 48);
        D.due("cut 15 by 1", x.cut(0, 15, 1), 49);
        D.due("cut 16 by 9", x.cut(0, 16, 9), Due.NONE);
        D.due("cut 16 by 8", x.cut(0, 16, 8), 64);
        D.due("nothing is left", x.cut(0, 1, 1), Due.NONE);
        D.due("count(6)", x.count(6), 192);
    }

    /** What is left is the last column of each row and the first column of the next. */
    private static void noPieceGoesAroundTheEdge() {
        SaddleHouse x = new SaddleHouse();
        x.hide();
        x.flaw(0, 0, 0);
        x.flaw(0, 15, 11);
        D.due("14 by 12 in the middle", x.cut(0, 14, 12), 1);
        long before = Due.told(x);
        D.refused("2 by 1 around the right edge", x, before, x.cut(0, 2, 1), Due.NONE);
        D.refused("1 by 12 below the lower edge", x, before, x.cut(0, 1, 12), Due.NONE);
        D.refused("a pair of 2 by 1", x, before, x.pair(0, 2, 1), Due.NONE);
        D.due("1 by 11 at the right edge", x.cut(0, 1, 11), 15);
        D.due("1 by 11 at the left edge", x.cut(0, 1, 11), 16);
    }

    private static void theSmallestAndTheGreatestPieces() {
        int[][] sizes = {{1, 1}, {16, 1}, {1, 12}, {16, 12}};
        for (int[] size : sizes) {
            SaddleHouse x = new SaddleHouse();
            x.hide();
            D.due("cut " + size[0] + " by " + size[1], x.cut(0, size[0], size[1]), 0);
            D.due("count(6)", x.count(6), size[0] * size[1]);
            D.due("its last patch", x.patch(0, size[0] - 1, size[1] - 1), 2);
            D.due("its last column's next", x.patch(0, size[0], 0), size[0] == 16 ? Due.UNKNOWN : 0);
            D.due("its last row's next", x.patch(0, 0, size[1]), size[1] == 12 ? Due.UNKNOWN : 0);
        }
    }

    private static void cutAroundFlaws() {
        SaddleHouse x = new SaddleHouse();
        x.hide();
        x.flaw(0, 3, 2);
        D.due("4 by 3 right of the flaw", x.cut(0, 4, 3), 4);
        D.due("the flaw stays", x.patch(0, 3, 2), 1);
        D.due("left of the piece", x.patch(0, 3, 0), 0);
        D.due("in the piece", x.patch(0, 4, 2), 2);
        D.due("the last of the piece", x.patch(0, 7, 2), 2);
        D.due("below the piece", x.patch(0, 7, 3), 0);
        D.due("right of the piece", x.patch(0, 8, 2), 0);
        D.due("3 by 3 left of it", x.cut(0, 3, 3), 0);
        D.due("1 by 2 between", x.cut(0, 1, 2), 3);
        D.due("1 by 12", x.cut(0, 1, 12), 8);
        D.due("count(6)", x.count(6), 12 + 9 + 2 + 12);
    }

    private static void cutWhole() {
        SaddleHouse x = new SaddleHouse();
        x.hide();
        x.hide();
        x.flaw(0, 9, 7);
        D.due("16 by 12 with a flaw", x.cut(0, 16, 12), Due.NONE);
        D.due("count(6)", x.count(6), 0);
        D.due("16 by 12", x.cut(1, 16, 12), 0);
        D.due("count(6)", x.count(6), 192);
        D.due("patch(1, 15, 11)", x.patch(1, 15, 11), 2);
        D.due("at the left edge", x.cut(0, 6, 12), 0);
        D.due("at the right edge", x.cut(0, 6, 12), 10);
        D.due("at the upper edge", x.cut(0, 4, 4), 6);
        D.due("at the lower edge", x.cut(0, 4, 4), 134);
    }

    private static void cutRefuses() {
        SaddleHouse x = new SaddleHouse();
        D.due("cut without a hide", x.cut(0, 0, 0), Due.UNKNOWN);
        x.hide();
        x.flaw(0, 0, 0);
        long before = Due.told(x);
        int[] noHides = {-1, 1, Due.LOW, Due.HIGH};
        for (int h : noHides) {
            D.refused("cut hide " + h, x, before, x.cut(h, 0, 13), Due.UNKNOWN);
        }
        int[] noWidths = {0, -1, 17, Due.LOW, Due.HIGH};
        for (int w : noWidths) {
            D.refused("cut width " + w, x, before, x.cut(0, w, 1), Due.OUTSIDE);
        }
        int[] noHeights = {0, -1, 13, Due.LOW, Due.HIGH};
        for (int h : noHeights) {
            D.refused("cut height " + h, x, before, x.cut(0, 1, h), Due.OUTSIDE);
        }
        D.refused("no room", x, before, x.cut(0, 16, 12), Due.NONE);
    }

    private static void pair() {
        SaddleHouse x = new SaddleHouse();
        x.hide();
        D.due("pair 3 by 2", x.pair(0, 3, 2), 256 * 3);
        D.due("patch(0, 5, 1)", x.patch(0, 5, 1), 2);
        D.due("count(6)", x.count(6), 12);
        D.due("pair 6 by 2", x.pair(0, 6, 2), 6 + 256 * 32);
        D.due("pair 4 by 2", x.pair(0, 4, 2), 12 + 256 * 38);
        D.due("pair 16 by 1", x.pair(0, 16, 1), 64 + 256 * 80);
        D.due("count(6)", x.count(6), 12 + 24 + 16 + 32);
    }

    private static void pairBothOrNone() {
        SaddleHouse x = new SaddleHouse();
        x.hide();
        long before = Due.told(x);
        D.refused("a pair of which one has room", x, before, x.pair(0, 9, 12), Due.NONE);
        D.refused("a pair of which one has room", x, before, x.pair(0, 16, 7), Due.NONE);
        D.due("all is whole", x.patch(0, 0, 0), 0);
        x.flaw(0, 8, 11);
        before = Due.told(x);
        D.refused("a pair with a flaw", x, before, x.pair(0, 8, 12), Due.NONE);
        D.due("half the hide each", x.pair(0, 8, 11), 256 * 8);
        before = Due.told(x);
        D.refused("a pair of which none has room", x, before, x.pair(0, 1, 2), Due.NONE);
        D.due("the row that is left", x.pair(0, 4, 1), 176 + 256 * 180);
        D.due("behind the flaw", x.cut(0, 7, 1), 185);
    }

    private static void pairsToTheLastPatch() {
        SaddleHouse x = new SaddleHouse();
        x.hide();
        for (int k = 0; k < 95; k++) {
            D.due("pair 1 by 1, " + k, x.pair(0, 1, 1), 2 * k + 256 * (2 * k + 1));
        }
        D.due("one of the last two", x.cut(0, 1, 1), 190);
        long before = Due.told(x);
        D.refused("a pair of which one has room", x, before, x.pair(0, 1, 1), Due.NONE);
        D.due("the last is whole", x.patch(0, 15, 11), 0);
        D.due("and can be cut", x.cut(0, 1, 1), 191);
        before = Due.told(x);
        D.refused("a pair on a hide that is all cut", x, before, x.pair(0, 1, 1), Due.NONE);
        D.refused("a piece of a hide that is all cut", x, before, x.cut(0, 1, 1), Due.NONE);
        D.due("count(6)", x.count(6), 192);
    }

    private static void thePairsSecondMayTouchTheFirst() {
        SaddleHouse x = new SaddleHouse();
        for (int h = 0; h < 4; h++) {
            x.hide();
        }
        D.due("pair 8 by 12", x.pair(0, 8, 12), 256 * 8);
        D.due("pair 16 by 6", x.pair(1, 16, 6), 256 * 96);
        D.due("pair 9 by 6, below", x.pair(2, 9, 6), 256 * 96);
        x.flaw(3, 0, 0);
        D.due("pair 8 by 6 behind a flaw", x.pair(3, 8, 6), 1 + 256 * 96);
        D.due("right of the second", x.pair(3, 7, 6), 9 + 256 * 104);
        D.due("count(6)", x.count(6), 192 + 192 + 108 + 96 + 84);
    }

    private static void pairRefuses() {
        SaddleHouse x = new SaddleHouse();
        D.due("pair without a hide", x.pair(0, 0, 0), Due.UNKNOWN);
        x.hide();
        long before = Due.told(x);
        int[] noHides = {-1, 1, Due.LOW, Due.HIGH};
        for (int h : noHides) {
            D.refused("pair hide " + h, x, before, x.pair(h, 0, 13), Due.UNKNOWN);
        }
        int[] noWidths = {0, -1, 17, Due.LOW, Due.HIGH};
        for (int w : noWidths) {
            D.refused("pair width " + w, x, before, x.pair(0, w, 1), Due.OUTSIDE);
        }
        int[] noHeights = {0, -1, 13, Due.LOW, Due.HIGH};
        for (int h : noHeights) {
            D.refused("pair height " + h, x, before, x.pair(0, 1, h), Due.OUTSIDE);
        }
        D.due("16 by 6 has room twice", x.pair(0, 16, 6), 256 * 96);
    }

    private static void patchRefuses() {
        SaddleHouse x = new SaddleHouse();
        D.due("patch without a hide", x.patch(0, 0, 0), Due.UNKNOWN);
        x.hide();
        long before = Due.told(x);
        int[] noHides = {-1, 1, Due.LOW, Due.HIGH};
        for (int h : noHides) {
            D.refused("patch hide " + h, x, before, x.patch(h, 0, 0), Due.UNKNOWN);
        }
        int[] noColumns = {-1, 16, Due.LOW, Due.HIGH};
        for (int col : noColumns) {
            D.refused("patch x " + col, x, before, x.patch(0, col, 5), Due.UNKNOWN);
        }
        int[] noRows = {-1, 12, Due.LOW, Due.HIGH};
        for (int y : noRows) {
            D.refused("patch y " + y, x, before, x.patch(0, 5, y), Due.UNKNOWN);
        }
    }
}
