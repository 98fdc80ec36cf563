import java.util.function.Supplier;
import java.util.function.ToLongFunction;

/** Compares answers with what is due, and holds what several tests do alike. */
final class Due {
    static final int NONE = -1;
    static final int UNKNOWN = -101;
    static final int OUTSIDE = -102;
    static final int STATE = -103;
    static final int FULL = -104;
    static final int LOW = Integer.MIN_VALUE;
    static final int HIGH = Integer.MAX_VALUE;

    private final String test;
    private int wrong = 0;
    private int asked = 0;

    Due(String test) {
        this.test = test;
    }

    void due(String call, long got, long want) {
        asked++;
        if (got != want) {
            wrong++;
            System.out.println(test + ": " + call + " answered " + got + ", due is " + want);
        }
    }

    /** A refused call changes nothing: the digest, the row at hand, the bench of the latest work and the counts stay. */
    void refused(String call, SaddleHouse x, long before, long got, long want) {
        due(call, got, want);
        due("all that is told behind the refused " + call, told(x), before);
    }

    /** The same, asked of a house of its own: nothing is promised behind an object's 512th call, and telling all takes 28. */
    void refused(String call, Supplier<SaddleHouse> maker, ToLongFunction<SaddleHouse> ask, long want) {
        SaddleHouse x = maker.get();
        refused(call, x, told(x), ask.applyAsLong(x), want);
    }

    static long told(SaddleHouse x) {
        long h = x.digest();
        for (int i = 0; i <= 8; i++) {
            int was = x.height(i, 0);
            x.height(i, was);
            h = 1000003 * h + was;
        }
        for (int what = 0; what <= 7; what++) {
            h = 1000003 * h + x.count(what);
        }
        return 1000003 * h + x.where();
    }

    void end() {
        System.out.println(test + ": " + asked + " answers, " + wrong + " wrong");
        if (wrong > 0) {
            System.exit(1);
        }
    }

    static void row(SaddleHouse x, int... heights) {
        for (int i = 0; i < heights.length; i++) {
            x.height(i, heights[i]);
        }
    }

    static void flat(SaddleHouse x, int height) {
        row(x, height, height, height, height, height, height, height, height, height);
    }

    /** A new house whose horse 0 has a flat back of 100 from day 0 on, and whose tree 0 has the gaps told to it. */
    static SaddleHouse houseWithGaps(int... gaps) {
        SaddleHouse x = new SaddleHouse();
        x.horse();
        x.measure(0, 0);
        for (int i = 0; i < gaps.length; i++) {
            x.height(i, 100 + gaps[i]);
        }
        x.tree();
        return x;
    }
}
