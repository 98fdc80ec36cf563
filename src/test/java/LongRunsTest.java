/** All promises: runs of 512 calls, the same ones each time, compared call by call with the plain house. */
public final class LongRunsTest {
    private static final int RUNS = 600;
    private static final int CALLS = 512;
    private static final int[] WILD = {-1, 0, 1, 8, 9, 12, 13, 16, 17, 20, 21, 24, 25, 400, 401, 1000, 1001, 2000, 2001,
        10000, 10001, -2, -101, Integer.MIN_VALUE, Integer.MAX_VALUE, Integer.MAX_VALUE - 3, 1 << 16, 1 << 30};

    private final Due due;
    private final int run;
    private final SaddleHouse x = new SaddleHouse();
    private final PlainHouse plain = new PlainHouse();
    private final int reach;
    private final int wildness;
    private final int last;
    private long state;

    private LongRunsTest(Due due, int run) {
        this.due = due;
        this.run = run;
        this.state = 7919L * run;
        // How far the days of a run reach, and how many of 64 arguments lie anywhere.
        this.reach = run % 3 == 0 ? 10000 : run % 3 == 1 ? 12 : 300;
        this.wildness = run % 4;
        // Few horses and trees meet one another more often; now and then all eight are asked of.
        this.last = run % 5 == 0 ? 7 : 3;
    }

    public static void main(String[] args) {
        Due due = new Due("LongRunsTest");
        for (int run = 1; run <= RUNS; run++) {
            LongRunsTest runs = new LongRunsTest(due, run);
            for (int k = 0; k < CALLS; k++) {
                runs.step();
            }
        }
        due.end();
    }

    private int next(int bound) {
        state = state * 6364136223846793005L + 1442695040888963407L;
        return (int) ((state >>> 33) % bound);
    }

    private int pick(int from, int to) {
        return next(64) < wildness ? WILD[next(WILD.length)] : from + next(to - from + 1);
    }

    private void same(String call, long got, long want, int... args) {
        StringBuilder text = new StringBuilder("run ").append(run).append(": ").append(call).append('(');
        for (int k = 0; k < args.length; k++) {
            text.append(k == 0 ? "" : ", ").append(args[k]);
        }
        due.due(text.append(')').toString(), got, want);
    }

    private void step() {
        int kind = next(40);
        if (kind < 12) {
            setHeight();
        } else if (kind < 16) {
            measureBack();
        } else if (kind < 22) {
            stepTrees(kind);
        } else if (kind < 26) {
            stepShared(kind);
        } else if (kind < 31) {
            stepHides(kind);
        } else if (kind < 34) {
            stepBenches(kind);
        } else if (kind < 37) {
            stepSaddles(kind);
        } else {
            stepTold(kind);
        }
    }

    private void setHeight() {
        int i = pick(0, 8);
        int kind = next(12);
        int v = kind == 0 ? -1 : kind == 1 ? next(401) : kind == 2 ? 0 : pick(98, 105);
        same("height", x.height(i, v), plain.height(i, v), i, v);
    }

    private void measureBack() {
        int kind = next(6);
        int horse = pick(0, last);
        int day = next(3) == 0 ? pick(0, reach) : pick(0, 1 + reach / 4);
        if (kind == 0) {
            same("horse", x.horse(), plain.horse());
        } else if (kind < 4) {
            same("measure", x.measure(horse, day), plain.measure(horse, day), horse, day);
        } else {
            int i = pick(0, 8);
            same("back", x.back(horse, day, i), plain.back(horse, day, i), horse, day, i);
        }
    }

    private int aLoad() {
        int kind = next(4);
        return kind == 0 ? pick(1, 2000) : kind == 1 ? pick(60, 200) : pick(5, 40);
    }

    private int aLimit() {
        int kind = next(3);
        return kind == 0 ? pick(1, 8) : kind == 1 ? pick(5, 30) : pick(30, 2000);
    }

    private void stepTrees(int kind) {
        int t = pick(0, last);
        int horse = pick(0, last);
        int day = pick(0, reach);
        int load = aLoad();
        int i = pick(0, 8);
        if (kind == 16) {
            same("tree", x.tree(), plain.tree());
        } else if (kind == 17) {
            int v = next(2) == 0 ? pick(0, 4) : pick(0, 20);
            same("shim", x.shim(t, i, v), plain.shim(t, i, v), t, i, v);
        } else if (kind == 18) {
            same("under", x.under(t, i), plain.under(t, i), t, i);
        } else if (kind == 19) {
            same("bears", x.bears(t, horse, day, load, i), plain.bears(t, horse, day, load, i), t, horse, day, load, i);
        } else if (kind == 20) {
            int m = aLimit();
            int what = pick(0, 3);
            same("fault", x.fault(t, horse, day, load, m, what), plain.fault(t, horse, day, load, m, what),
                t, horse, day, load, m, what);
        } else {
            int m = aLimit();
            same("best", x.best(horse, day, load, m), plain.best(horse, day, load, m), horse, day, load, m);
        }
    }

    private void stepShared(int kind) {
        int load = aLoad();
        int m = aLimit();
        if (kind == 22 || kind == 23 && next(4) > 0) {
            int day = pick(0, reach);
            same("day", x.day(day), plain.day(day), day);
        } else if (kind == 23) {
            same("clear", x.clear(), plain.clear());
        } else if (kind == 24) {
            int bits = next(3) == 0 ? pick(-1, 300) : next(256);
            same("serves", x.serves(bits, load, m), plain.serves(bits, load, m), bits, load, m);
        } else {
            same("fewest", x.fewest(load, m), plain.fewest(load, m), load, m);
        }
    }

    private void stepHides(int kind) {
        int h = pick(0, last == 7 ? 3 : 2);
        int column = pick(0, 15);
        int line = pick(0, 11);
        int width = next(4) == 0 ? pick(1, 16) : pick(1, 4);
        int height = next(4) == 0 ? pick(1, 12) : pick(1, 3);
        if (kind == 26 && next(2) == 0) {
            same("hide", x.hide(), plain.hide());
        } else if (kind == 26 || kind == 27) {
            same("flaw", x.flaw(h, column, line), plain.flaw(h, column, line), h, column, line);
        } else if (kind == 28) {
            same("cut", x.cut(h, width, height), plain.cut(h, width, height), h, width, height);
        } else if (kind == 29) {
            same("pair", x.pair(h, width, height), plain.pair(h, width, height), h, width, height);
        } else {
            same("patch", x.patch(h, column, line), plain.patch(h, column, line), h, column, line);
        }
    }

    private void stepBenches(int kind) {
        if (kind == 31 && next(2) == 0) {
            int hours = next(3) == 0 ? 1 : pick(1, 24);
            same("bench", x.bench(hours), plain.bench(hours), hours);
        } else if (kind == 31) {
            same("where", x.where(), plain.where());
        } else {
            int n = next(3) == 0 ? pick(900, 1000) : pick(1, 60);
            int day = pick(0, reach);
            same("work", x.work(n, day), plain.work(n, day), n, day);
        }
    }

    private void stepSaddles(int kind) {
        int day = pick(0, reach);
        int saddle = pick(0, last == 7 ? 11 : 9);
        if (kind == 34) {
            int t = pick(0, last);
            int horse = pick(0, last);
            int d = next(2) == 0 ? pick(0, 2000) : pick(0, 10);
            int c = next(4) == 0 ? pick(0, 400) : pick(0, 6);
            same("saddle", x.saddle(t, horse, day, d, c), plain.saddle(t, horse, day, d, c), t, horse, day, d, c);
        } else if (kind == 35) {
            same("free", x.free(saddle, day), plain.free(saddle, day), saddle, day);
        } else {
            same("changed", x.changed(saddle, day), plain.changed(saddle, day), saddle, day);
        }
    }

    private void stepTold(int kind) {
        if (kind == 37) {
            int what = pick(0, 7);
            same("count", x.count(what), plain.count(what), what);
        } else {
            same("digest", x.digest(), plain.digest());
        }
    }
}
