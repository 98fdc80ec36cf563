/** Promises 12 to 15: day, clear, serves, fewest. */
public final class SharedTest {
    private static final Due D = new Due("SharedTest");

    public static void main(String[] args) {
        dayAndClear();
        dayRefuses();
        dayAgainBehindClear();
        servesNothing();
        serves();
        servesOverDays();
        servesOnTheFirstAndTheLastDay();
        servesByTheLeastAndTheMost();
        servesRefuses();
        fewest();
        fewestIsNotTheFirstThatServes();
        fewestOfLikeOnesTheLeastBits();
        fewestOfAllEight();
        fewestByTheLeastAndTheMost();
        fewestRefuses();
        D.end();
    }

    private static void dayAndClear() {
        SaddleHouse x = new SaddleHouse();
        D.due("day(10000)", x.day(10000), 1);
        D.due("day(0)", x.day(0), 2);
        D.due("clear()", x.clear(), 2);
        D.due("clear() again", x.clear(), 0);
        D.due("a day that is gone can be told", x.day(10000), 1);
        D.due("count(5)", x.count(5), 1);
    }

    private static void dayRefuses() {
        SaddleHouse x = new SaddleHouse();
        for (int n = 1; n <= 5; n++) {
            D.due("day " + n, x.day(100 - n), n);
        }
        long before = Due.told(x);
        int[] noDays = {-1, 10001, Due.LOW, Due.HIGH};
        for (int day : noDays) {
            D.refused("day(" + day + ")", x, before, x.day(day), Due.OUTSIDE);
        }
        D.refused("a day that is there", x, before, x.day(99), Due.STATE);
        D.refused("a day that is there", x, before, x.day(95), Due.STATE);
        D.due("day 6", x.day(3), 6);
        before = Due.told(x);
        D.refused("day 7", x, before, x.day(4), Due.FULL);
        D.refused("state comes ahead of full", x, before, x.day(3), Due.STATE);
        D.refused("outside comes ahead of full", x, before, x.day(-1), Due.OUTSIDE);
        D.due("clear() of six", x.clear(), 6);
    }

    private static void dayAgainBehindClear() {
        SaddleHouse x = new SaddleHouse();
        for (int round = 0; round < 3; round++) {
            for (int n = 1; n <= 6; n++) {
                D.due("day " + n + " of round " + round, x.day(n), n);
            }
            D.due("a seventh", x.day(7), Due.FULL);
            D.due("the days that are gone", x.clear(), 6);
            D.due("no days", x.count(5), 0);
        }
        D.due("clear() without days", x.clear(), 0);
        D.due("clear() without days, again", x.clear(), 0);
    }

    private static void servesNothing() {
        SaddleHouse x = new SaddleHouse();
        D.due("serves without anything", x.serves(0, 1, 1), 1);
        D.due("fewest without anything", x.fewest(1, 1), 0);
        x.horse();
        x.day(4);
        D.due("serves a horse without a back", x.serves(0, 1, 1), 1);
        D.due("fewest for a horse without a back", x.fewest(1, 1), 0);
        x.measure(0, 5);
        D.due("serves ahead of its first measure", x.serves(0, 1, 1), 1);
        x.day(5);
        D.due("serves on its first measure's day", x.serves(-1, 1, 1), 0);
        D.due("fewest without trees", x.fewest(1, 1), Due.NONE);
        x.clear();
        D.due("serves without days", x.serves(0, 1, 1), 1);
        D.due("fewest without days", x.fewest(1, 1), 0);
    }

    /** Horse 0 is flat, horse 1 high in the middle, horse 2 low in the middle; a tree for each, in the same order. */
    private static SaddleHouse threeHorses() {
        SaddleHouse x = new SaddleHouse();
        for (int n = 0; n < 3; n++) {
            x.horse();
            Due.flat(x, 100);
            x.height(4, n == 0 ? 100 : n == 1 ? 150 : 50);
            x.measure(n, 10);
            x.tree();
        }
        return x;
    }

    private static void serves() {
        SaddleHouse x = threeHorses();
        x.day(10);
        D.due("all", x.serves(7, 9, 1), 1);
        D.due("all and such as are not there", x.serves(-1, 9, 1), 1);
        D.due("all and the lowest bit", x.serves(Due.LOW | 7, 9, 1), 1);
        D.due("such as are not there alone", x.serves(-8, 9, 1), 0);
        D.due("none", x.serves(0, 9, 1), 0);
        D.due("0 and 1", x.serves(3, 9, 1), 0);
        D.due("0 and 2", x.serves(5, 9, 1), 0);
        D.due("1 and 2", x.serves(6, 9, 1), 0);
        D.due("a load that is too much", x.serves(7, 10, 1), 0);
        D.due("and with more m", x.serves(7, 10, 2), 1);
        D.due("nothing is changed", x.serves(7, 9, 1), 1);
    }

    private static void servesOverDays() {
        SaddleHouse x = threeHorses();
        Due.flat(x, 100);
        x.measure(1, 20);
        x.day(20);
        D.due("1 is flat by day 20", x.serves(5, 9, 1), 1);
        x.day(19);
        D.due("and was not on day 19", x.serves(5, 9, 1), 0);
        D.due("all, on both", x.serves(7, 9, 1), 1);
        x.clear();
        x.day(9);
        D.due("no back on day 9", x.serves(0, 9, 1), 1);
    }

    private static void servesOnTheFirstAndTheLastDay() {
        SaddleHouse x = new SaddleHouse();
        x.horse();
        x.measure(0, 0);
        x.tree();
        x.height(0, 200);
        x.measure(0, 10000);
        x.day(0);
        D.due("day 0", x.serves(1, 9, 1), 1);
        x.day(9999);
        D.due("day 9999", x.serves(1, 9, 1), 1);
        x.day(10000);
        D.due("day 10000", x.serves(1, 9, 1), 0);
        D.due("none serves day 10000", x.fewest(9, 1), Due.NONE);
        x.tree();
        D.due("both trees", x.serves(3, 9, 1), 1);
        D.due("bits of trees told later", x.fewest(9, 1), 3);
    }

    private static void servesByTheLeastAndTheMost() {
        SaddleHouse x = threeHorses();
        x.day(10);
        D.due("a load of 1 rocks", x.serves(7, 1, 2000), 0);
        D.due("a load of 2000 presses", x.serves(7, 2000, 222), 0);
        D.due("a load of 2000 by 223", x.serves(7, 2000, 223), 1);
        D.due("a load of 2000 by 2000", x.serves(7, 2000, 2000), 1);
        D.due("a load of 1 by 1", x.serves(7, 1, 1), 0);
    }

    private static void servesRefuses() {
        SaddleHouse x = threeHorses();
        x.day(10);
        long before = Due.told(x);
        int[] noLoads = {0, -1, 2001, Due.LOW, Due.HIGH};
        for (int load : noLoads) {
            D.refused("serves load " + load, x, before, x.serves(7, load, 1), Due.OUTSIDE);
            D.refused("serves m " + load, x, before, x.serves(7, 9, load), Due.OUTSIDE);
        }
        D.due("serves 2000 by 2000", x.serves(7, 2000, 2000), 1);
    }

    private static void fewest() {
        SaddleHouse x = threeHorses();
        x.day(10);
        D.due("all three", x.fewest(9, 1), 7);
        x.clear();
        x.day(9);
        D.due("nobody to serve", x.fewest(9, 1), 0);
        x.clear();
        x.day(11);
        D.due("none serves", x.fewest(10, 1), Due.NONE);
        D.due("one for all, by 2", x.fewest(10, 2), 2);
    }

    private static void fewestIsNotTheFirstThatServes() {
        SaddleHouse x = new SaddleHouse();
        x.horse();
        Due.row(x, 100, 100, 100, 150, 150, 150, 100, 100, 100);
        x.measure(0, 0);
        x.tree();
        x.horse();
        Due.row(x, 100, 100, 100, 130, 130, 130, 100, 100, 100);
        x.measure(1, 0);
        x.tree();
        x.day(0);
        D.due("two are needed, for one presses and the other bridges", x.fewest(90, 18), 3);
        Due.row(x, 100, 100, 100, 140, 140, 140, 100, 100, 100);
        x.tree();
        D.due("m of 1 is too little for the third", x.fewest(9, 1), 3);
        D.due("the third for both", x.fewest(90, 18), 4);
        D.due("the two serve too", x.serves(3, 90, 18), 1);
        D.due("but neither alone", x.serves(1, 90, 18) + x.serves(2, 90, 18), 0);
    }

    private static void fewestOfLikeOnesTheLeastBits() {
        SaddleHouse x = threeHorses();
        Due.flat(x, 100);
        x.tree();
        x.height(4, 50);
        x.tree();
        x.day(10);
        D.due("the first of like trees", x.fewest(9, 1), 7);
        x.shim(0, 0, 20);
        D.due("3 in the place of 0", x.fewest(9, 1), 14);
        x.shim(2, 0, 20);
        D.due("4 in the place of 2", x.fewest(9, 1), 26);
        x.shim(0, 0, 0);
        D.due("0 again", x.fewest(9, 1), 19);
    }

    private static void fewestOfAllEight() {
        SaddleHouse x = new SaddleHouse();
        for (int n = 0; n < 8; n++) {
            x.horse();
            Due.flat(x, 100);
            x.height(n, 200);
            x.measure(n, 3);
            x.tree();
        }
        for (int day = 1; day <= 6; day++) {
            x.day(day);
        }
        D.due("all eight", x.fewest(9, 1), 255);
        D.due("all eight serve", x.serves(255, 9, 1), 1);
        D.due("seven do not", x.serves(127, 9, 1), 0);
        D.due("no load for all", x.fewest(10, 1), Due.NONE);
        x.clear();
        x.day(2);
        D.due("day 2 lies ahead of all", x.fewest(10, 1), 0);
    }

    private static void fewestByTheLeastAndTheMost() {
        SaddleHouse x = threeHorses();
        x.day(10);
        D.due("a load of 1 by 2000", x.fewest(1, 2000), Due.NONE);
        D.due("a load of 2000 by 222", x.fewest(2000, 222), Due.NONE);
        D.due("a load of 2000 by 223", x.fewest(2000, 223), 7);
        D.due("a load of 2000 by 2000, one for all", x.fewest(2000, 2000), 1);
        D.due("a load of 1 by 1", x.fewest(1, 1), Due.NONE);
    }

    private static void fewestRefuses() {
        SaddleHouse x = threeHorses();
        x.day(10);
        long before = Due.told(x);
        int[] noLoads = {0, -1, 2001, Due.LOW, Due.HIGH};
        for (int load : noLoads) {
            D.refused("fewest load " + load, x, before, x.fewest(load, 1), Due.OUTSIDE);
            D.refused("fewest m " + load, x, before, x.fewest(9, load), Due.OUTSIDE);
        }
        D.refused("fewest answers and changes nothing", x, before, x.fewest(9, 1), 7);
    }
}
