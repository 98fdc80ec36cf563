import java.util.ArrayList;
import java.util.LinkedHashSet;
import java.util.List;
import java.util.Map;
import java.util.TreeMap;
import java.util.regex.Matcher;
import java.util.regex.Pattern;

/** The document told a second time, by other means: slow, with all of the library, to be compared with the program. */
final class PlainHouse {
    private static final int NONE = -1;
    private static final int UNKNOWN = -101;
    private static final int OUTSIDE = -102;
    private static final int STATE = -103;
    private static final int FULL = -104;

    private final int[] row = {100, 100, 100, 100, 100, 100, 100, 100, 100};
    private final List<TreeMap<Integer, int[]>> horses = new ArrayList<>();
    private final List<int[]> trees = new ArrayList<>();
    private final List<int[]> shims = new ArrayList<>();
    private final LinkedHashSet<Integer> days = new LinkedHashSet<>();
    private final List<char[][]> hides = new ArrayList<>();
    private final List<int[]> benches = new ArrayList<>();
    private final List<int[]> saddles = new ArrayList<>();
    private int where = NONE;
    private int hours = 0;

    private static boolean no(List<?> list, int n) {
        return !(0 <= n && n < list.size());
    }

    private static boolean out(int n, int from, int to) {
        return !(from <= n && n <= to);
    }

    int horse() {
        if (horses.size() == 8) {
            return FULL;
        }
        horses.add(new TreeMap<>());
        return horses.size() - 1;
    }

    int height(int i, int v) {
        if (out(i, 0, 8)) {
            return UNKNOWN;
        }
        if (out(v, -1, 400)) {
            return OUTSIDE;
        }
        int was = row[i];
        row[i] = v;
        return was;
    }

    int measure(int horse, int day) {
        if (no(horses, horse)) {
            return UNKNOWN;
        }
        if (out(day, 0, 10000) || row[0] < 0 || row[8] < 0) {
            return OUTSIDE;
        }
        TreeMap<Integer, int[]> own = horses.get(horse);
        if (!own.isEmpty() && own.lastKey() >= day) {
            return STATE;
        }
        if (own.size() == 6) {
            return FULL;
        }
        own.put(day, filled());
        return own.size();
    }

    private int[] filled() {
        TreeMap<Integer, Integer> known = new TreeMap<>();
        for (int i = 0; i < 9; i++) {
            if (row[i] >= 0) {
                known.put(i, row[i]);
            }
        }
        int[] all = new int[9];
        for (int i = 0; i < 9; i++) {
            Map.Entry<Integer, Integer> a = known.floorEntry(i);
            Map.Entry<Integer, Integer> b = known.ceilingEntry(i);
            double part = a.getKey().equals(b.getKey()) ? 0
                : (double) ((b.getValue() - a.getValue()) * (i - a.getKey())) / (b.getKey() - a.getKey());
            all[i] = a.getValue() + (int) Math.floor(part);
        }
        return all;
    }

    private int[] on(int horse, int day) {
        Map.Entry<Integer, int[]> entry = horses.get(horse).floorEntry(day);
        return entry == null ? null : entry.getValue();
    }

    int back(int horse, int day, int i) {
        if (no(horses, horse) || out(i, 0, 8)) {
            return UNKNOWN;
        }
        if (out(day, 0, 10000)) {
            return OUTSIDE;
        }
        return on(horse, day) == null ? STATE : on(horse, day)[i];
    }

    int tree() {
        for (int v : row) {
            if (v < 0) {
                return OUTSIDE;
            }
        }
        if (trees.size() == 8) {
            return FULL;
        }
        trees.add(row.clone());
        shims.add(new int[9]);
        return trees.size() - 1;
    }

    int shim(int t, int i, int v) {
        if (no(trees, t) || out(i, 0, 8)) {
            return UNKNOWN;
        }
        if (out(v, 0, 20)) {
            return OUTSIDE;
        }
        int was = shims.get(t)[i];
        shims.get(t)[i] = v;
        return was;
    }

    int under(int t, int i) {
        return no(trees, t) || out(i, 0, 8) ? UNKNOWN : trees.get(t)[i] - shims.get(t)[i];
    }

    /** All that is borne when the tree has come so low that the load is carried, taken back unit by unit. */
    private int[] settled(int t, int[] back, int load) {
        int[] gap = new int[9];
        int least = Integer.MAX_VALUE;
        for (int i = 0; i < 9; i++) {
            gap[i] = trees.get(t)[i] - shims.get(t)[i] - back[i];
            least = Math.min(least, gap[i]);
        }
        int[] borne = new int[9];
        int sum = 0;
        for (int depth = least; sum < load; depth++) {
            for (int i = 0; i < 9; i++) {
                if (gap[i] <= depth) {
                    borne[i]++;
                    sum++;
                }
            }
        }
        while (sum > load) {
            int most = 8;
            for (int i = 8; i >= 0; i--) {
                most = borne[i] >= borne[most] ? i : most;
            }
            borne[most]--;
            sum--;
        }
        return borne;
    }

    int bears(int t, int horse, int day, int load, int i) {
        if (no(trees, t) || no(horses, horse) || out(i, 0, 8)) {
            return UNKNOWN;
        }
        if (out(day, 0, 10000) || out(load, 1, 2000)) {
            return OUTSIDE;
        }
        return on(horse, day) == null ? STATE : settled(t, on(horse, day), load)[i];
    }

    /** Fault, place, most, pressed. */
    private static int[] judged(int[] borne, int m) {
        StringBuilder signs = new StringBuilder();
        int most = 0;
        int pressed = 0;
        int presses = NONE;
        for (int i = 0; i < 9; i++) {
            signs.append(borne[i] == 0 ? '.' : 'P');
            pressed += borne[i] == 0 ? 0 : 1;
            most = Math.max(most, borne[i]);
            presses = presses == NONE && borne[i] > m ? i : presses;
        }
        Matcher bridge = Pattern.compile("P\\.{3,}P").matcher(signs);
        if (presses != NONE) {
            return new int[] {1, presses, most, pressed};
        }
        if (bridge.find()) {
            return new int[] {2, bridge.start() + 1, most, pressed};
        }
        if (signs.substring(0, 3).equals("...")) {
            return new int[] {3, 0, most, pressed};
        }
        if (signs.substring(6, 9).equals("...")) {
            return new int[] {3, 6, most, pressed};
        }
        return new int[] {0, NONE, most, pressed};
    }

    int fault(int t, int horse, int day, int load, int m, int what) {
        if (no(trees, t) || no(horses, horse)) {
            return UNKNOWN;
        }
        if (out(day, 0, 10000) || out(load, 1, 2000) || out(m, 1, 2000) || out(what, 0, 3)) {
            return OUTSIDE;
        }
        return on(horse, day) == null ? STATE : judged(settled(t, on(horse, day), load), m)[what];
    }

    int best(int horse, int day, int load, int m) {
        if (no(horses, horse)) {
            return UNKNOWN;
        }
        if (out(day, 0, 10000) || out(load, 1, 2000) || out(m, 1, 2000)) {
            return OUTSIDE;
        }
        if (on(horse, day) == null) {
            return STATE;
        }
        int found = NONE;
        int least = 0;
        for (int t = trees.size() - 1; t >= 0; t--) {
            int[] judged = judged(settled(t, on(horse, day), load), m);
            if (judged[0] == 0 && (found == NONE || judged[2] <= least)) {
                found = t;
                least = judged[2];
            }
        }
        return found;
    }

    int day(int day) {
        if (out(day, 0, 10000)) {
            return OUTSIDE;
        }
        if (days.contains(day)) {
            return STATE;
        }
        if (days.size() == 6) {
            return FULL;
        }
        days.add(day);
        return days.size();
    }

    int clear() {
        int were = days.size();
        days.clear();
        return were;
    }

    /** For each horse and each day told on which it has a back: which trees fit. */
    private List<boolean[]> rides(int load, int m) {
        List<boolean[]> rides = new ArrayList<>();
        for (int h = 0; h < horses.size(); h++) {
            for (int day : days) {
                if (on(h, day) == null) {
                    continue;
                }
                boolean[] fit = new boolean[trees.size()];
                for (int t = 0; t < trees.size(); t++) {
                    fit[t] = judged(settled(t, on(h, day), load), m)[0] == 0;
                }
                rides.add(fit);
            }
        }
        return rides;
    }

    private static boolean suits(int bits, List<boolean[]> rides) {
        for (boolean[] fit : rides) {
            boolean some = false;
            for (int t = 0; t < fit.length; t++) {
                some = some || fit[t] && (bits >> t & 1) == 1;
            }
            if (!some) {
                return false;
            }
        }
        return true;
    }

    int serves(int bits, int load, int m) {
        if (out(load, 1, 2000) || out(m, 1, 2000)) {
            return OUTSIDE;
        }
        return suits(bits, rides(load, m)) ? 1 : 0;
    }

    int fewest(int load, int m) {
        if (out(load, 1, 2000) || out(m, 1, 2000)) {
            return OUTSIDE;
        }
        List<boolean[]> rides = rides(load, m);
        for (int many = 0; many <= trees.size(); many++) {
            for (int bits = 0; bits < Math.pow(2, trees.size()); bits++) {
                if (Integer.toBinaryString(bits).replace("0", "").length() == many && suits(bits, rides)) {
                    return bits;
                }
            }
        }
        return NONE;
    }

    int hide() {
        if (hides.size() == 4) {
            return FULL;
        }
        hides.add(new char[12][16]);
        return hides.size() - 1;
    }

    int flaw(int h, int x, int y) {
        if (no(hides, h) || out(x, 0, 15) || out(y, 0, 11)) {
            return UNKNOWN;
        }
        int was = hides.get(h)[y][x];
        if (was == 2) {
            return STATE;
        }
        hides.get(h)[y][x] = 1;
        return was;
    }

    private static int room(char[][] hide, int width, int height, int from) {
        for (int place = from; place < 192; place++) {
            boolean room = place % 16 + width <= 16 && place / 16 + height <= 12;
            for (int k = 0; room && k < width * height; k++) {
                room = hide[place / 16 + k / width][place % 16 + k % width] == 0;
            }
            if (room) {
                return place;
            }
        }
        return NONE;
    }

    private static void take(char[][] hide, int place, int width, int height) {
        for (int k = 0; k < width * height; k++) {
            hide[place / 16 + k / width][place % 16 + k % width] = 2;
        }
    }

    int cut(int h, int width, int height) {
        if (no(hides, h)) {
            return UNKNOWN;
        }
        if (out(width, 1, 16) || out(height, 1, 12)) {
            return OUTSIDE;
        }
        int place = room(hides.get(h), width, height, 0);
        if (place != NONE) {
            take(hides.get(h), place, width, height);
        }
        return place;
    }

    int pair(int h, int width, int height) {
        if (no(hides, h)) {
            return UNKNOWN;
        }
        if (out(width, 1, 16) || out(height, 1, 12)) {
            return OUTSIDE;
        }
        char[][] trial = new char[12][];
        for (int y = 0; y < 12; y++) {
            trial[y] = hides.get(h)[y].clone();
        }
        int first = room(trial, width, height, 0);
        if (first == NONE) {
            return NONE;
        }
        take(trial, first, width, height);
        int second = room(trial, width, height, first + 1);
        if (second == NONE) {
            return NONE;
        }
        take(trial, second, width, height);
        hides.set(h, trial);
        return second * 256 + first;
    }

    int patch(int h, int x, int y) {
        return no(hides, h) || out(x, 0, 15) || out(y, 0, 11) ? UNKNOWN : hides.get(h)[y][x];
    }

    int bench(int n) {
        if (out(n, 1, 24)) {
            return OUTSIDE;
        }
        if (benches.size() == 3) {
            return FULL;
        }
        benches.add(new int[] {n, 0});
        return benches.size() - 1;
    }

    int work(int n, int day) {
        if (out(n, 1, 1000) || out(day, 0, 10000)) {
            return OUTSIDE;
        }
        int chosen = NONE;
        int end = 0;
        int promise = 100001;
        for (int b = 0; b < benches.size(); b++) {
            int hour = benches.get(b)[1];
            while (hour < day * benches.get(b)[0]) {
                hour++;
            }
            int lastDay = (hour + n - 1) / benches.get(b)[0];
            if (lastDay < promise) {
                chosen = b;
                promise = lastDay;
                end = hour + n;
            }
        }
        if (chosen == NONE) {
            return STATE;
        }
        benches.get(chosen)[1] = end;
        where = chosen;
        hours += n;
        return promise;
    }

    int where() {
        return where;
    }

    int saddle(int t, int horse, int day, int d, int c) {
        if (no(trees, t) || no(horses, horse)) {
            return UNKNOWN;
        }
        if (out(day, 0, 10000) || out(d, 0, 2000) || out(c, 0, 400)) {
            return OUTSIDE;
        }
        if (on(horse, day) == null) {
            return STATE;
        }
        if (saddles.size() == 12) {
            return FULL;
        }
        saddles.add(new int[] {t, horse, day, d, c});
        return saddles.size() - 1;
    }

    int changed(int saddle, int day) {
        if (no(saddles, saddle)) {
            return UNKNOWN;
        }
        int[] sold = saddles.get(saddle);
        if (out(day, sold[2] + 1, 10000)) {
            return OUTSIDE;
        }
        int most = 0;
        for (int i = 0; i < 9; i++) {
            most = Math.max(most, Math.abs(on(sold[1], sold[2])[i] - on(sold[1], day)[i]));
        }
        return most;
    }

    int free(int saddle, int day) {
        int change = changed(saddle, day);
        if (change < 0) {
            return change;
        }
        int[] sold = saddles.get(saddle);
        return day <= sold[2] + sold[3] && change >= sold[4] ? 1 : 0;
    }

    int count(int what) {
        int cut = 0;
        for (char[][] hide : hides) {
            for (int place = 0; place < 192; place++) {
                cut += hide[place / 16][place % 16] == 2 ? 1 : 0;
            }
        }
        int[] all = {horses.size(), trees.size(), hides.size(), benches.size(), saddles.size(), days.size(), cut, hours};
        return out(what, 0, 7) ? OUTSIDE : all[what];
    }

    long digest() {
        List<Integer> told = new ArrayList<>();
        for (TreeMap<Integer, int[]> own : horses) {
            told.add(own.size());
            for (Map.Entry<Integer, int[]> entry : own.entrySet()) {
                told.add(entry.getKey());
                addAll(told, entry.getValue());
            }
        }
        for (int t = 0; t < trees.size(); t++) {
            addAll(told, trees.get(t));
            addAll(told, shims.get(t));
        }
        for (char[][] hide : hides) {
            for (int place = 0; place < 192; place++) {
                told.add((int) hide[place / 16][place % 16]);
            }
        }
        for (int[] bench : benches) {
            addAll(told, bench);
        }
        for (int[] sold : saddles) {
            addAll(told, sold);
        }
        told.addAll(days);
        long h = 131;
        for (int number : told) {
            h = h * 31 + number;
        }
        return h;
    }

    private static void addAll(List<Integer> told, int[] numbers) {
        for (int number : numbers) {
            told.add(number);
        }
    }
}
