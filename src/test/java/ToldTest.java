/** Promises 27 and 28: count, digest. */
public final class ToldTest {
    private static final Due D = new Due("ToldTest");

    public static void main(String[] args) {
        count();
        countRefuses();
        digestOfHorses();
        digestOfTrees();
        digestOfHides();
        digestOfBenches();
        digestOfSaddles();
        digestOfDays();
        digestOfAllInOrder();
        digestWraps();
        D.end();
    }

    private static long mix(long h, long... numbers) {
        long mixed = h;
        for (long number : numbers) {
            mixed = 31 * mixed + number;
        }
        return mixed;
    }

    private static void counts(String name, SaddleHouse x, int... want) {
        for (int what = 0; what <= 7; what++) {
            D.due(name + ": count(" + what + ")", x.count(what), want[what]);
        }
    }

    private static void count() {
        SaddleHouse x = new SaddleHouse();
        x.horse();
        counts("a horse", x, 1, 0, 0, 0, 0, 0, 0, 0);
        x.measure(0, 3);
        x.tree();
        x.tree();
        counts("two trees", x, 1, 2, 0, 0, 0, 0, 0, 0);
        x.hide();
        x.hide();
        x.hide();
        x.flaw(1, 2, 2);
        counts("three hides", x, 1, 2, 3, 0, 0, 0, 0, 0);
        x.bench(4);
        x.bench(4);
        counts("two benches", x, 1, 2, 3, 2, 0, 0, 0, 0);
        x.saddle(0, 0, 3, 1, 1);
        counts("a saddle", x, 1, 2, 3, 2, 1, 0, 0, 0);
        x.day(4);
        x.day(3);
        x.day(5);
        counts("three days", x, 1, 2, 3, 2, 1, 3, 0, 0);
        x.cut(0, 3, 2);
        x.pair(1, 2, 2);
        counts("patches cut", x, 1, 2, 3, 2, 1, 3, 14, 0);
        x.work(7, 1);
        x.work(9, 1);
        counts("hours", x, 1, 2, 3, 2, 1, 3, 14, 16);
        x.clear();
        counts("days gone", x, 1, 2, 3, 2, 1, 0, 14, 16);
    }

    private static void countRefuses() {
        SaddleHouse x = new SaddleHouse();
        int[] noWhats = {-1, 8, Due.LOW, Due.HIGH};
        for (int what : noWhats) {
            D.due("count(" + what + ")", x.count(what), Due.OUTSIDE);
        }
    }

    private static void digestOfHorses() {
        SaddleHouse x = new SaddleHouse();
        x.horse();
        D.due("digest of a horse without measures", x.digest(), mix(131, 0));
        x.horse();
        Due.row(x, 10, -1, 7, 8, 9, 10, 11, 12, 13);
        x.measure(1, 77);
        D.due("digest of a measure", x.digest(), mix(131, 0, 1, 77, 10, 8, 7, 8, 9, 10, 11, 12, 13));
        Due.flat(x, 1);
        x.measure(1, 78);
        D.due("digest of two measures", x.digest(),
            mix(131, 0, 2, 77, 10, 8, 7, 8, 9, 10, 11, 12, 13, 78, 1, 1, 1, 1, 1, 1, 1, 1, 1));
        Due.flat(x, 5);
        D.due("the row at hand is not told", x.digest(),
            mix(131, 0, 2, 77, 10, 8, 7, 8, 9, 10, 11, 12, 13, 78, 1, 1, 1, 1, 1, 1, 1, 1, 1));
    }

    private static void digestOfTrees() {
        SaddleHouse x = new SaddleHouse();
        Due.row(x, 10, 20, 30, 40, 50, 60, 70, 80, 90);
        x.tree();
        x.shim(0, 2, 7);
        D.due("digest of a tree", x.digest(),
            mix(131, 10, 20, 30, 40, 50, 60, 70, 80, 90, 0, 0, 7, 0, 0, 0, 0, 0, 0));
    }

    private static void digestOfHides() {
        SaddleHouse x = new SaddleHouse();
        x.hide();
        x.flaw(0, 1, 2);
        x.cut(0, 2, 2);
        long want = 131;
        for (int y = 0; y < 12; y++) {
            for (int col = 0; col < 16; col++) {
                want = mix(want, col == 1 && y == 2 ? 1 : col < 2 && y < 2 ? 2 : 0);
            }
        }
        D.due("digest of a hide", x.digest(), want);
    }

    private static void digestOfBenches() {
        SaddleHouse x = new SaddleHouse();
        x.bench(5);
        x.bench(8);
        D.due("digest of benches", x.digest(), mix(131, 5, 0, 8, 0));
        x.work(12, 3);
        D.due("digest behind work", x.digest(), mix(131, 5, 0, 8, 36));
    }

    private static void digestOfSaddles() {
        SaddleHouse x = new SaddleHouse();
        x.horse();
        x.horse();
        x.measure(1, 4);
        x.tree();
        x.tree();
        long ahead = x.digest();
        x.saddle(0, 1, 6, 20, 3);
        x.saddle(1, 1, 4, 2000, 400);
        D.due("digest of saddles", x.digest(), mix(ahead, 0, 1, 6, 20, 3, 1, 1, 4, 2000, 400));
    }

    private static void digestOfDays() {
        SaddleHouse x = new SaddleHouse();
        x.day(70);
        x.day(7);
        D.due("digest of days as they were told", x.digest(), mix(131, 70, 7));
        x.clear();
        D.due("digest without days", x.digest(), 131);
        x.day(9);
        D.due("digest of a day behind clear()", x.digest(), mix(131, 9));
    }

    private static void digestOfAllInOrder() {
        SaddleHouse x = new SaddleHouse();
        x.day(3);
        x.bench(2);
        x.hide();
        Due.row(x, 1, 2, 3, 4, 5, 6, 7, 8, 9);
        x.tree();
        x.horse();
        x.measure(0, 2);
        x.saddle(0, 0, 2, 30, 4);
        x.work(3, 0);
        x.horse();
        long want = mix(131, 1, 2, 1, 2, 3, 4, 5, 6, 7, 8, 9, 0);
        want = mix(want, 1, 2, 3, 4, 5, 6, 7, 8, 9, 0, 0, 0, 0, 0, 0, 0, 0, 0);
        for (int k = 0; k < 192; k++) {
            want = mix(want, 0);
        }
        D.due("digest of all", x.digest(), mix(want, 2, 3, 0, 0, 2, 30, 4, 3));
    }

    private static void digestWraps() {
        SaddleHouse x = new SaddleHouse();
        x.hide();
        long want = 131;
        for (int k = 0; k < 192; k++) {
            want = want * 31;
        }
        D.due("digest wraps", x.digest(), want);
        D.due("and changes nothing", x.digest(), want);
    }
}
