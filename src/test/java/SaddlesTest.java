import java.util.function.ToLongFunction;

/** Promises 24 to 26: saddle, free, changed. */
public final class SaddlesTest {
    private static final Due D = new Due("SaddlesTest");

    public static void main(String[] args) {
        saddle();
        saddleRefuses();
        changed();
        changedIsTheMostOfAllStations();
        aLaterMeasureAheadOfTheSaddlesDay();
        freeByDays();
        freeByChange();
        theShortestGuarantees();
        theLongestGuarantee();
        freeRefuses();
        D.end();
    }

    private static SaddleHouse house() {
        SaddleHouse x = new SaddleHouse();
        x.horse();
        x.horse();
        x.measure(0, 5);
        x.tree();
        x.tree();
        return x;
    }

    private static void saddle() {
        SaddleHouse x = house();
        for (int n = 0; n < 12; n++) {
            D.due("saddle " + n, x.saddle(1, 0, 5, n % 2 == 0 ? 0 : 2000, n % 3 == 0 ? 400 : 0), n);
        }
        long before = Due.told(x);
        D.refused("saddle 12", x, before, x.saddle(1, 0, 10000, 0, 0), Due.FULL);
        D.refused("state comes ahead of full", x, before, x.saddle(1, 0, 4, 0, 0), Due.STATE);
        D.refused("outside comes ahead of full", x, before, x.saddle(1, 0, 5, 2001, 0), Due.OUTSIDE);
        D.refused("unknown comes ahead of full", x, before, x.saddle(2, 0, 5, 0, 0), Due.UNKNOWN);
        D.due("count(4)", x.count(4), 12);
        D.refused("free of a saddle 12", x, before, x.free(12, 6), Due.UNKNOWN);
        D.refused("changed of a saddle 12", x, before, x.changed(12, 6), Due.UNKNOWN);
        D.due("free of the last", x.free(11, 6), 1);
        D.due("changed of the last", x.changed(11, 6), 0);
    }

    private static void saddleRefuses(String call, ToLongFunction<SaddleHouse> ask, long want) {
        D.refused(call, SaddlesTest::house, ask, want);
    }

    private static void saddleRefuses() {
        int[] unknown = {-1, 2, 8, Due.LOW, Due.HIGH};
        for (int n : unknown) {
            saddleRefuses("saddle tree " + n, h -> h.saddle(n, 0, 5, 0, 0), Due.UNKNOWN);
            saddleRefuses("saddle horse " + n, h -> h.saddle(0, n, 5, 0, 0), Due.UNKNOWN);
        }
        int[] noDays = {-1, 10001, Due.LOW, Due.HIGH};
        for (int day : noDays) {
            saddleRefuses("saddle day " + day, h -> h.saddle(0, 0, day, 0, 0), Due.OUTSIDE);
        }
        int[] noGuarantees = {-1, 2001, Due.LOW, Due.HIGH};
        for (int d : noGuarantees) {
            saddleRefuses("saddle d " + d, h -> h.saddle(0, 0, 5, d, 0), Due.OUTSIDE);
        }
        int[] noChanges = {-1, 401, Due.LOW, Due.HIGH};
        for (int c : noChanges) {
            saddleRefuses("saddle c " + c, h -> h.saddle(0, 0, 5, 0, c), Due.OUTSIDE);
        }
        saddleRefuses("saddle ahead of the first measure", h -> h.saddle(0, 0, 4, 0, 0), Due.STATE);
        saddleRefuses("saddle for a horse without a back", h -> h.saddle(0, 1, 9, 0, 0), Due.STATE);
        D.due("saddle on the first measure's day", house().saddle(0, 0, 5, 0, 0), 0);
        D.due("saddle on the last day", house().saddle(0, 0, 10000, 2000, 400), 0);
    }

    private static void changed() {
        SaddleHouse x = house();
        x.saddle(0, 0, 7, 100, 3);
        D.due("no measure since", x.changed(0, 8), 0);
        x.height(4, 97);
        x.measure(0, 20);
        x.height(4, 104);
        x.measure(0, 30);
        D.due("ahead of the next measure", x.changed(0, 19), 0);
        D.due("on the day of it", x.changed(0, 20), 3);
        D.due("and up to the next", x.changed(0, 29), 3);
        D.due("not from the one ahead, but from its day", x.changed(0, 30), 4);
        D.due("on the last day", x.changed(0, 10000), 4);
        x.saddle(0, 0, 20, 100, 3);
        D.due("a saddle of day 20", x.changed(1, 30), 7);
    }

    private static void changedIsTheMostOfAllStations() {
        SaddleHouse x = house();
        x.saddle(0, 0, 5, 100, 3);
        Due.row(x, 101, 98, 103, 96, 105, 94, 107, 92, 109);
        x.measure(0, 6);
        D.due("up most", x.changed(0, 6), 9);
        Due.row(x, 90, 100, 109, 100, 100, 100, 100, 100, 100);
        x.measure(0, 7);
        D.due("down most", x.changed(0, 7), 10);
        Due.row(x, 120, -1, -1, -1, 60, -1, -1, -1, 100);
        x.measure(0, 8);
        D.due("with gaps filled", x.changed(0, 8), 40);
        Due.flat(x, 0);
        x.measure(0, 9);
        Due.flat(x, 400);
        x.saddle(0, 0, 9, 1, 400);
        x.measure(0, 10);
        D.due("as much as can be", x.changed(1, 10), 400);
        D.due("free by as much as can be", x.free(1, 10), 1);
    }

    private static void aLaterMeasureAheadOfTheSaddlesDay() {
        SaddleHouse x = house();
        x.saddle(0, 0, 50, 100, 1);
        Due.flat(x, 90);
        x.measure(0, 40);
        D.due("the back of its day is the later measure's", x.changed(0, 60), 0);
        Due.flat(x, 100);
        x.measure(0, 60);
        D.due("and what changes, changes from there", x.changed(0, 60), 10);
        D.due("free", x.free(0, 60), 1);
        D.due("not free ahead of it", x.free(0, 59), 0);
    }

    private static void freeByDays() {
        SaddleHouse x = house();
        x.saddle(0, 0, 10, 5, 0);
        x.saddle(0, 0, 10, 0, 0);
        x.saddle(0, 0, 8000, 2000, 0);
        D.due("the next day", x.free(0, 11), 1);
        D.due("5 days behind", x.free(0, 15), 1);
        D.due("6 days behind", x.free(0, 16), 0);
        D.due("a guarantee of no days", x.free(1, 11), 0);
        D.due("2000 days", x.free(2, 10000), 1);
    }

    private static void freeByChange() {
        SaddleHouse x = house();
        x.saddle(0, 0, 10, 2000, 4);
        x.saddle(1, 0, 10, 2000, 5);
        x.saddle(1, 0, 10, 2000, 6);
        x.height(8, 95);
        x.measure(0, 20);
        D.due("no change yet", x.free(0, 19), 0);
        D.due("more than c", x.free(0, 20), 1);
        D.due("just c", x.free(1, 20), 1);
        D.due("less than c", x.free(2, 20), 0);
        D.due("too late", x.free(0, 2011), 0);
        D.due("just in time", x.free(0, 2010), 1);
    }

    /** A guarantee of no days has none, of one the next day; a change of 0 is always there. */
    private static void theShortestGuarantees() {
        SaddleHouse x = new SaddleHouse();
        x.horse();
        x.measure(0, 0);
        x.tree();
        D.due("a saddle on day 0", x.saddle(0, 0, 0, 0, 0), 0);
        D.due("of one day", x.saddle(0, 0, 0, 1, 0), 1);
        D.due("of one day and a change of 1", x.saddle(0, 0, 0, 1, 1), 2);
        D.due("no days, the next day", x.free(0, 1), 0);
        D.due("one day, the next day", x.free(1, 1), 1);
        D.due("one day, the day behind it", x.free(1, 2), 0);
        D.due("a change of 1 that did not come", x.free(2, 1), 0);
        x.height(0, 99);
        x.measure(0, 1);
        D.due("a change of 1 that came", x.free(2, 1), 1);
        D.due("a change that came too late", x.free(2, 2), 0);
        D.due("no days, all the same", x.free(0, 1), 0);
        D.due("the last day", x.free(1, 10000), 0);
        D.due("the change on the last day", x.changed(0, 10000), 1);
    }

    private static void theLongestGuarantee() {
        SaddleHouse x = new SaddleHouse();
        x.horse();
        Due.row(x, 0);
        x.measure(0, 0);
        x.tree();
        x.saddle(0, 0, 0, 2000, 400);
        x.height(0, 399);
        x.measure(0, 1999);
        D.due("by 399", x.free(0, 1999), 0);
        x.height(0, 400);
        x.measure(0, 2000);
        D.due("by 400, 2000 days behind", x.free(0, 2000), 1);
        D.due("by 400, 2001 days behind", x.free(0, 2001), 0);
        D.due("by 400 on any day", x.changed(0, 2001), 400);
    }

    private static SaddleHouse withASaddle() {
        SaddleHouse x = house();
        x.saddle(0, 0, 10, 5, 0);
        return x;
    }

    private static void freeRefuses() {
        D.due("free without a saddle", house().free(0, 9), Due.UNKNOWN);
        D.due("changed without a saddle", house().changed(0, 9), Due.UNKNOWN);
        int[] unknown = {-1, 1, 12, Due.LOW, Due.HIGH};
        for (int s : unknown) {
            D.refused("free saddle " + s, SaddlesTest::withASaddle, h -> h.free(s, 11), Due.UNKNOWN);
            D.refused("changed saddle " + s, SaddlesTest::withASaddle, h -> h.changed(s, 11), Due.UNKNOWN);
        }
        int[] noDays = {-1, 0, 9, 10, 10001, Due.LOW, Due.HIGH};
        for (int day : noDays) {
            D.refused("free day " + day, SaddlesTest::withASaddle, h -> h.free(0, day), Due.OUTSIDE);
            D.refused("changed day " + day, SaddlesTest::withASaddle, h -> h.changed(0, day), Due.OUTSIDE);
        }
        D.refused("free answers and changes nothing", SaddlesTest::withASaddle, h -> h.free(0, 11), 1);
        D.refused("changed answers and changes nothing", SaddlesTest::withASaddle, h -> h.changed(0, 11), 0);
        SaddleHouse x = house();
        x.saddle(0, 0, 10000, 5, 0);
        x.saddle(0, 0, 9999, 5, 0);
        D.due("no day is later than 10000", x.free(0, 10000), Due.OUTSIDE);
        D.due("nor to be asked of", x.changed(0, 10001), Due.OUTSIDE);
        D.due("10000 is later than 9999", x.free(1, 10000), 1);
        D.due("and has a change", x.changed(1, 10000), 0);
    }
}
