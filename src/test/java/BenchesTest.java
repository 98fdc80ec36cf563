/** Promises 21 to 23: bench, work, where. */
public final class BenchesTest {
    private static final Due D = new Due("BenchesTest");

    public static void main(String[] args) {
        bench();
        benchRefuses();
        workOnOne();
        workOnTheLeastPromise();
        workOfLikeOnesTheLeastNumber();
        workRefuses();
        workOfOneHourAndOfAThousand();
        workFromTheLaterOfDayAndHour();
        workAboveTheLastDay();
        workToTheLastHourOfTheLastDay();
        workWhereOneBenchIsStillInTime();
        D.end();
    }

    private static void bench() {
        SaddleHouse x = new SaddleHouse();
        D.due("bench(1)", x.bench(1), 0);
        D.due("bench(24)", x.bench(24), 1);
        D.due("bench(8)", x.bench(8), 2);
        D.due("count(3)", x.count(3), 3);
    }

    private static void benchRefuses() {
        SaddleHouse x = new SaddleHouse();
        long before = Due.told(x);
        int[] noHours = {0, -1, 25, Due.LOW, Due.HIGH};
        for (int hours : noHours) {
            D.refused("bench(" + hours + ")", x, before, x.bench(hours), Due.OUTSIDE);
        }
        x.bench(3);
        x.bench(3);
        x.bench(3);
        before = Due.told(x);
        D.refused("bench 4", x, before, x.bench(3), Due.FULL);
        D.refused("outside comes ahead of full", x, before, x.bench(25), Due.OUTSIDE);
    }

    private static void workOnOne() {
        SaddleHouse x = new SaddleHouse();
        x.bench(8);
        D.due("a day's work", x.work(8, 0), 0);
        D.due("where()", x.where(), 0);
        D.due("an hour of the next day", x.work(1, 0), 1);
        D.due("the rest of it", x.work(7, 0), 1);
        D.due("a day that comes later", x.work(8, 5), 5);
        D.due("the days between are gone", x.work(1, 0), 6);
        D.due("behind the other in the same day", x.work(1, 6), 6);
        D.due("to the last hour", x.work(6, 6), 6);
        D.due("the hour at which it is free is the day's first", x.work(1, 7), 7);
        D.due("1000 hours on day 10000", x.work(1000, 10000), 10124);
        D.due("behind them", x.work(1, 10000), 10125);
        D.due("count(7)", x.count(7), 8 + 1 + 7 + 8 + 1 + 1 + 6 + 1 + 1000 + 1);
    }

    private static void workOnTheLeastPromise() {
        SaddleHouse x = new SaddleHouse();
        x.bench(8);
        x.bench(5);
        D.due("work(20, 3)", x.work(20, 3), 5);
        D.due("where()", x.where(), 0);
        D.due("work(11, 3)", x.work(11, 3), 5);
        D.due("where()", x.where(), 1);
        D.due("work(1, 3)", x.work(1, 3), 5);
        D.due("of like ones the first", x.where(), 0);
        D.due("work(4, 3)", x.work(4, 3), 5);
        D.due("the other has room on day 5", x.where(), 1);
        D.due("work(1, 3) again", x.work(1, 3), 5);
        D.due("and now the first alone has", x.where(), 0);
        x.bench(24);
        D.due("work(24, 0)", x.work(24, 0), 0);
        D.due("where()", x.where(), 2);
    }

    private static void workOfLikeOnesTheLeastNumber() {
        SaddleHouse x = new SaddleHouse();
        x.bench(4);
        x.bench(4);
        x.bench(4);
        int[] want = {0, 1, 2, 0, 1, 2};
        for (int k = 0; k < 6; k++) {
            D.due("work(4, 0) " + k, x.work(4, 0), k / 3);
            D.due("where() " + k, x.where(), want[k]);
        }
    }

    private static void workRefuses() {
        SaddleHouse x = new SaddleHouse();
        D.due("outside comes ahead of state", x.work(0, 0), Due.OUTSIDE);
        D.due("work without a bench", x.work(1, 0), Due.STATE);
        D.due("where()", x.where(), Due.NONE);
        x.bench(2);
        x.bench(3);
        x.work(3, 0);
        long before = Due.told(x);
        int[] noHours = {0, -1, 1001, Due.LOW, Due.HIGH};
        for (int n : noHours) {
            D.refused("work(" + n + ", 0)", x, before, x.work(n, 0), Due.OUTSIDE);
        }
        int[] noDays = {-1, 10001, Due.LOW, Due.HIGH};
        for (int day : noDays) {
            D.refused("work(1, " + day + ")", x, before, x.work(1, day), Due.OUTSIDE);
        }
        D.due("where() behind the refused", x.where(), 1);
    }

    private static void workOfOneHourAndOfAThousand() {
        SaddleHouse x = new SaddleHouse();
        x.bench(24);
        D.due("1 of 24 hours", x.work(1, 0), 0);
        D.due("23 more", x.work(23, 0), 0);
        D.due("1000 of 24 a day", x.work(1000, 0), 42);
        D.due("the last 8 of the day", x.work(8, 0), 42);
        D.due("the first of the next", x.work(1, 0), 43);
        x = new SaddleHouse();
        x.bench(1);
        D.due("1 of 1 hour", x.work(1, 0), 0);
        D.due("1000 of 1 a day", x.work(1000, 0), 1000);
        D.due("1 more", x.work(1, 0), 1001);
        D.due("1 on the last day to be told", x.work(1, 10000), 10000);
        D.due("count(7)", x.count(7), 1003);
    }

    private static void workFromTheLaterOfDayAndHour() {
        SaddleHouse x = new SaddleHouse();
        x.bench(4);
        D.due("10 hours from day 2", x.work(10, 2), 4);
        D.due("from day 4, but behind the other", x.work(2, 4), 4);
        D.due("from day 5, the hour at which it is free", x.work(4, 5), 5);
        D.due("from day 7, an hour later than free", x.work(1, 7), 7);
        D.due("from day 0, behind all", x.work(4, 0), 8);
        D.due("the hour at which it is free", x.digest(), 31L * (31 * 131 + 4) + 33);
    }

    private static void workAboveTheLastDay() {
        SaddleHouse x = new SaddleHouse();
        x.bench(1);
        D.due("1000 hours of one an hour", x.work(1000, 10000), 10999);
        for (int k = 1; k < 90; k++) {
            D.due("and 1000 more", x.work(1000, 0), 10999 + 1000 * k);
        }
        long before = Due.told(x);
        D.refused("a day of 100999", x, before, x.work(1000, 0), Due.STATE);
        D.refused("a day of 100001", x, before, x.work(2, 0), Due.STATE);
        D.due("a day of 100000", x.work(1, 0), 100000);
        before = Due.told(x);
        D.refused("a day of 100001", x, before, x.work(1, 0), Due.STATE);
        D.due("count(7)", x.count(7), 90001);
    }

    /** The last hour of day 100000 is hour 400003 of a bench of 4 a day. */
    private static void workToTheLastHourOfTheLastDay() {
        SaddleHouse x = new SaddleHouse();
        x.bench(4);
        D.due("from the last day to be told", x.work(1000, 10000), 10249);
        for (int k = 2; k <= 359; k++) {
            x.work(1000, 0);
        }
        D.due("360000 hours", x.work(1000, 0), 99999);
        D.due("five more are one too many", x.work(5, 0), Due.STATE);
        D.due("and change no hours", x.count(7), 360000);
        D.due("three more", x.work(3, 0), 100000);
        D.due("two more are one too many", x.work(2, 0), Due.STATE);
        D.due("the last hour", x.work(1, 0), 100000);
        D.due("one more is one too many", x.work(1, 0), Due.STATE);
        D.due("and so it is from the last day", x.work(1, 10000), Due.STATE);
        D.due("where()", x.where(), 0);
        D.due("the hour at which it is free", x.digest(), 31L * (31 * 131 + 4) + 400004);
        D.due("count(7)", x.count(7), 360004);
        D.due("another bench", x.bench(1), 1);
        D.due("is in time", x.work(1, 0), 0);
        D.due("where()", x.where(), 1);
    }

    private static void workWhereOneBenchIsStillInTime() {
        SaddleHouse x = new SaddleHouse();
        x.bench(1);
        x.work(1000, 10000);
        for (int k = 1; k < 90; k++) {
            x.work(1000, 0);
        }
        x.bench(1);
        D.due("the other bench", x.work(1000, 10000), 10999);
        D.due("where()", x.where(), 1);
    }
}
