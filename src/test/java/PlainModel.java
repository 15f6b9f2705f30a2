import java.util.ArrayList;
import java.util.Arrays;
import java.util.List;
import java.util.regex.Matcher;
import java.util.regex.Pattern;

/** The document once more, in the slowest and plainest form: every YEAR is gone through, every row is tried. */
final class PlainModel {
    private static final long LOST = Long.MIN_VALUE;
    private static final Pattern TEXT = textPattern();

    private static final class Glass implements Cloneable {
        int kind, sand, full, neck, heat, keeper;
        boolean laid;

        Glass like() {
            try {
                return (Glass) clone();
            } catch (CloneNotSupportedException e) {
                throw new IllegalStateException(e);
            }
        }
    }

    private static final class Row {
        int lane;
        int[] cells;
    }

    private List<Glass> glasses = new ArrayList<>();
    private final List<int[]> readings = new ArrayList<>();
    private final Row[] rows = new Row[4];
    private int year, trace, fault;

    private static Pattern textPattern() {
        StringBuilder all = new StringBuilder();
        for (int houses = 2; houses <= 6; houses++) {
            all.append(houses == 2 ? "" : "|").append("s").append(houses)
                .append("(;[pwc](0[1-9]|[1-9][0-9])[0-9][0-3][0-").append(houses - 1).append("]){").append(houses).append("}");
        }
        return Pattern.compile(all.toString());
    }

    private static List<Glass> likeAll(List<Glass> all) {
        List<Glass> out = new ArrayList<>();
        for (Glass g : all) {
            out.add(g.like());
        }
        return out;
    }

    private boolean has(int k) {
        return k >= 0 && k < glasses.size();
    }

    private static boolean in(int v, int least, int most) {
        return least <= v && v <= most;
    }

    private static int rate(List<Glass> all, int k) {
        Glass g = all.get(k);
        int rate = g.neck + all.get(g.keeper).heat;
        if (g.kind != 0) {
            rate += 1;
        }
        return g.kind == 2 ? rate / 2 : rate;
    }

    private static void year(List<Glass> all) {
        for (int k = 0; k < all.size(); k++) {
            Glass g = all.get(k);
            for (int grain = rate(all, k); grain > 0 && !g.laid && g.sand > 0; grain--) {
                g.sand--;
            }
        }
    }

    private static int lifeIn(List<Glass> now, int k) {
        List<Glass> all = likeAll(now);
        int years = 0;
        while (all.get(k).sand > 0 && years < 99) {
            year(all);
            years++;
        }
        return years;
    }

    private static int livesIn(List<Glass> all) {
        int sum = 0;
        for (int k = 0; k < all.size(); k++) {
            sum += lifeIn(all, k);
        }
        return sum;
    }

    private static int living(List<Glass> all) {
        int set = 0;
        for (int k = 0; k < all.size(); k++) {
            set += all.get(k).sand > 0 ? 1 << k : 0;
        }
        return set;
    }

    private static boolean act(List<Glass> all, int k, int act) {
        Glass g = all.get(k);
        Glass hand = all.get(g.keeper);
        if (g.sand == 0 || hand.sand == 0 || hand.laid) {
            return false;
        }
        if (act == 1) {
            boolean can = g.laid;
            g.laid = false;
            return can;
        }
        if (g.laid) {
            return false;
        }
        if (act == 0) {
            g.laid = true;
        } else {
            g.sand = g.full - g.sand;
        }
        return true;
    }

    private int fail(int which) {
        fault = which;
        return -10 - which;
    }

    private int cellsFault(int k, int lane, int i, int n) {
        if (rows[k] != null && rows[k].lane != lane) {
            return 2;
        }
        if (rows[k] == null) {
            return 1;
        }
        if (n < 0) {
            return 4;
        }
        return i < 0 || i > rows[k].cells.length || (long) i + n > rows[k].cells.length ? 3 : 0;
    }

    int see(int sheet, int lane, int i, int n) {
        fault = 0;
        if (!in(sheet, 0, 3)) {
            return -1;
        }
        if (!in(lane, 0, 2)) {
            return -2;
        }
        int met = cellsFault(sheet, lane, i, n);
        if (met != 0) {
            return fail(met);
        }
        StringBuilder text = new StringBuilder();
        for (int c = i; c < i + n; c++) {
            int code = rows[sheet].cells[c];
            text.append(in(code, 1, 127) ? (char) code : '?');
        }
        for (int length = 1; length <= n; length++) {
            Matcher m = TEXT.matcher(text.substring(0, length));
            if (!m.matches() && !m.hitEnd()) {
                return -100 - (length - 1);
            }
        }
        if (!TEXT.matcher(text).matches()) {
            return -100 - n;
        }
        String[] parts = text.toString().split(";");
        glasses.clear();
        for (int k = 1; k < parts.length; k++) {
            Glass g = new Glass();
            g.kind = "pwc".indexOf(parts[k].charAt(0));
            g.full = Integer.parseInt(parts[k].substring(1, 3));
            g.sand = g.full;
            g.neck = Integer.parseInt(parts[k].substring(3, 4));
            g.heat = Integer.parseInt(parts[k].substring(4, 5));
            g.keeper = Integer.parseInt(parts[k].substring(5, 6));
            glasses.add(g);
        }
        year = 0;
        readings.clear();
        return glasses.size();
    }

    int ofGlass(int k, int what) {
        if (!has(k)) {
            return -1;
        }
        if (!in(what, 0, 7)) {
            return -2;
        }
        Glass g = glasses.get(k);
        return new int[] {g.kind, g.sand, g.neck, g.heat, g.keeper, rate(glasses, k), g.laid ? 1 : 0, g.full}[what];
    }

    int keeps(int house) {
        if (!has(house)) {
            return -1;
        }
        int set = 0;
        for (int k = 0; k < glasses.size(); k++) {
            set += glasses.get(k).keeper == house ? 1 << k : 0;
        }
        return set;
    }

    int chafe(int k, int v) {
        if (!has(k) || !in(v, 0, 9)) {
            return has(k) ? -2 : -1;
        }
        int was = glasses.get(k).neck;
        glasses.get(k).neck = v;
        return was;
    }

    int warm(int k, int v) {
        if (!has(k) || !in(v, 0, 3)) {
            return has(k) ? -2 : -1;
        }
        int was = glasses.get(k).heat;
        glasses.get(k).heat = v;
        return was;
    }

    int give(int k, int house) {
        if (!has(k) || !has(house)) {
            return -1;
        }
        int was = glasses.get(k).keeper;
        glasses.get(k).keeper = house;
        return was;
    }

    int alive(int what) {
        if (glasses.isEmpty()) {
            return -3;
        }
        if (!in(what, 0, 1)) {
            return -2;
        }
        int set = living(glasses);
        for (int k = 0; k < glasses.size(); k++) {
            if (what == 1 && !glasses.get(k).laid) {
                set &= ~(1 << k);
            }
        }
        return set;
    }

    int act(int k, int act) {
        if (!has(k)) {
            return -1;
        }
        return act(glasses, k, act) ? glasses.get(k).sand : -3;
    }

    int go(int n) {
        if (glasses.isEmpty()) {
            return -3;
        }
        if (!in(n, 1, 99)) {
            return -2;
        }
        if (year + n > 999) {
            return -3;
        }
        int before = Integer.bitCount(living(glasses));
        for (int y = 0; y < n; y++) {
            year(glasses);
            year++;
        }
        return before - Integer.bitCount(living(glasses));
    }

    int life(int k) {
        return has(k) ? lifeIn(glasses, k) : -1;
    }

    int chronicle(int sheet, int lane, int i, int n, int what) {
        fault = 0;
        if (!in(sheet, 0, 3)) {
            return -1;
        }
        if (!in(lane, 0, 2) || !in(n, 0, 20) || !(in(what, 0, 3) || in(what, 10, 15) || in(what, 20, 25))) {
            return -2;
        }
        if (glasses.isEmpty()) {
            return -3;
        }
        int met = cellsFault(sheet, lane, i, 2 * n);
        if (met != 0) {
            return fail(met);
        }
        int[] pairs = Arrays.copyOfRange(rows[sheet].cells, i, i + 2 * n);
        for (int p = 0; p < 2 * n; p += 2) {
            if (Arrays.asList(0, 1, 2, 9).indexOf(pairs[p + 1]) < 0 || pairs[p + 1] == 9 && !in(pairs[p], 0, 9)) {
                return -2;
            }
            if (pairs[p + 1] != 9 && !has(pairs[p])) {
                return -1;
            }
        }
        return chronicle(pairs, what);
    }

    private int chronicle(int[] pairs, int what) {
        List<Glass> all = likeAll(glasses);
        int[] died = {-9, -9, -9, -9, -9, -9};
        int years = 0;
        for (int p = 0; p < pairs.length; p += 2) {
            boolean can = true;
            int before = living(all);
            if (pairs[p + 1] == 9) {
                can = year + years + pairs[p] <= 999;
                for (int y = 0; y < pairs[p] && can; y++) {
                    years++;
                    year(all);
                    note(died, before & ~living(all), years);
                    before = living(all);
                }
            } else {
                can = act(all, pairs[p], pairs[p + 1]);
                note(died, before & ~living(all), years);
            }
            if (!can) {
                return what == 1 ? p / 2 : -100 - p / 2;
            }
        }
        if (what >= 20) {
            return died[what - 20];
        }
        if (what >= 10) {
            return what - 10 < all.size() ? all.get(what - 10).sand : -9;
        }
        return new int[] {Integer.bitCount(living(all)), -9, years, living(all)}[what];
    }

    private static void note(int[] died, int who, int years) {
        for (int k = 0; k < 6; k++) {
            if ((who & 1 << k) != 0 && died[k] == -9) {
                died[k] = years;
            }
        }
    }

    int ring(int house) {
        return has(house) ? reach(house, house) : -1;
    }

    int reach(int from, int to) {
        if (!has(from) || !has(to)) {
            return -1;
        }
        List<Integer> chain = new ArrayList<>();
        int at = to;
        for (int step = 0; step < 20; step++) {
            at = glasses.get(at).keeper;
            chain.add(at);
        }
        return chain.indexOf(from) < 0 ? -9 : chain.indexOf(from) + 1;
    }

    int keeping(int k) {
        if (!in(k, -1, 5)) {
            return -2;
        }
        if (glasses.isEmpty()) {
            return -3;
        }
        int size = glasses.size();
        int[][] lives = new int[size][size];
        for (int g = 0; g < size; g++) {
            List<Glass> all = likeAll(glasses);
            for (int house = 0; house < size; house++) {
                all.get(g).keeper = house;
                lives[g][house] = lifeIn(all, g);
            }
        }
        int most = -1;
        int[] bestRow = {-9, -9, -9, -9, -9, -9};
        int rowsInAll = 1;
        for (int g = 0; g < size; g++) {
            rowsInAll *= size;
        }
        for (int number = 0; number < rowsInAll; number++) {
            int[] row = new int[size];
            int rest = number;
            int sum = 0;
            int taken = 0;
            boolean fits = true;
            for (int g = size - 1; g >= 0; g--) {
                row[g] = rest % size;
                rest /= size;
                fits &= row[g] != g && (taken & 1 << row[g]) == 0;
                taken |= 1 << row[g];
                sum += lives[g][row[g]];
            }
            if (fits && sum > most) {
                most = sum;
                bestRow = Arrays.copyOf(row, 6);
                Arrays.fill(bestRow, size, 6, -9);
            }
        }
        return k == -1 ? most : bestRow[k];
    }

    int trade(int what) {
        if (!in(what, 0, 2)) {
            return -2;
        }
        if (glasses.isEmpty()) {
            return -3;
        }
        int[] best = {0, -9, -9};
        for (int a = glasses.size() - 2; a >= 0; a--) {
            for (int b = glasses.size() - 1; b > a; b--) {
                List<Glass> all = likeAll(glasses);
                all.get(a).keeper = glasses.get(b).keeper;
                all.get(b).keeper = glasses.get(a).keeper;
                int more = livesIn(all) - livesIn(glasses);
                if (more >= 1 && more >= best[0]) {
                    best = new int[] {more, a, b};
                }
            }
        }
        return best[0] == 0 ? -9 : best[what];
    }

    int first(int what) {
        if (!in(what, 0, 1)) {
            return -2;
        }
        if (glasses.isEmpty()) {
            return -3;
        }
        for (int years = 1; years < 99; years++) {
            for (int k = 0; k < glasses.size(); k++) {
                if (lifeIn(glasses, k) == years) {
                    return what == 0 ? k : years;
                }
            }
        }
        return -9;
    }

    int found(int sheet, int lane, int i, int n) {
        fault = 0;
        if (!in(sheet, 0, 3)) {
            return -1;
        }
        if (!in(lane, 0, 2) || !in(n, 0, 40)) {
            return -2;
        }
        if (glasses.isEmpty()) {
            return -3;
        }
        int met = cellsFault(sheet, lane, i, n);
        if (met != 0) {
            return fail(met);
        }
        List<Glass> all = likeAll(glasses);
        int set = (1 << all.size()) - 1;
        for (int c = i; c < i + n; c++) {
            for (int k = 0; k < all.size(); k++) {
                if (all.get(k).sand != rows[sheet].cells[c]) {
                    set &= ~(1 << k);
                }
            }
            year(all);
        }
        return set;
    }

    int reading(int k, int y, int v) {
        if (!has(k)) {
            return -1;
        }
        if (!in(y, 0, 99) || !in(v, 0, 99)) {
            return -2;
        }
        if (readings.size() == 8) {
            return -4;
        }
        readings.add(new int[] {k, y, v});
        return readings.size() - 1;
    }

    int back(int k) {
        if (!in(k, 0, readings.size())) {
            return -2;
        }
        for (int r = 0; r < k; r++) {
            readings.remove(readings.size() - 1);
        }
        return readings.size();
    }

    private boolean fits(List<Glass> now) {
        for (int[] r : readings) {
            List<Glass> all = likeAll(now);
            for (int y = 0; y < r[1]; y++) {
                year(all);
            }
            if (all.get(r[0]).sand != r[2]) {
                return false;
            }
        }
        return true;
    }

    /** which: 0 necks, 1 kinds, 2 keepers. */
    int fitting(int k, int which) {
        if (!has(k)) {
            return -1;
        }
        int set = 0;
        int bound = new int[] {10, 3, glasses.size()}[which];
        for (int v = 0; v < bound; v++) {
            List<Glass> all = likeAll(glasses);
            Glass g = all.get(k);
            if (which == 0) {
                g.neck = v;
            } else if (which == 1) {
                g.kind = v;
            } else {
                g.keeper = v;
            }
            set += fits(all) ? 1 << v : 0;
        }
        return set;
    }

    long odds(int k, int y, int which) {
        if (!has(k) || !in(y, 0, 99) || !in(which, 0, 1)) {
            return LOST;
        }
        long upper = 0;
        long lower = 0;
        for (int house = 0; house < glasses.size(); house++) {
            List<Glass> all = likeAll(glasses);
            all.get(k).keeper = house;
            if (house != k) {
                lower++;
                upper += lifeIn(all, k) >= y ? 1 : 0;
            }
        }
        for (long d = lower; d >= 1; d--) {
            if (upper % d == 0 && lower % d == 0) {
                return (which == 0 ? upper : lower) / d;
            }
        }
        return LOST;
    }

    int sheet(int k, int lane, int n) {
        fault = 0;
        if (!in(k, 0, 3)) {
            return -1;
        }
        if (!in(lane, 0, 2) || n > 60) {
            return -2;
        }
        if (n < 0) {
            return fail(4);
        }
        rows[k] = new Row();
        rows[k].lane = lane;
        rows[k].cells = new int[n];
        return 1;
    }

    int lose(int k) {
        if (!in(k, 0, 3)) {
            return -1;
        }
        int had = rows[k] == null ? 0 : 1;
        rows[k] = null;
        return had;
    }

    int put(int k, int i, int v) {
        fault = 0;
        if (!in(k, 0, 3)) {
            return -1;
        }
        if (rows[k] == null) {
            return fail(1);
        }
        if (i < 0 || i >= rows[k].cells.length) {
            return fail(3);
        }
        rows[k].cells[i] = rows[k].lane == 0 ? (byte) v : rows[k].lane == 1 ? (short) v : v;
        return 1;
    }

    long cell(int k, int i, int lane) {
        fault = 0;
        if (!in(k, 0, 3) || !in(lane, 0, 2)) {
            return LOST;
        }
        if (rows[k] == null) {
            fault = 1;
        } else if (rows[k].lane != lane) {
            fault = 2;
        } else if (i < 0 || i >= rows[k].cells.length) {
            fault = 3;
        }
        return fault == 0 ? rows[k].cells[i] : LOST;
    }

    int copy(int k, int i, int other, int j, int n) {
        fault = 0;
        if (!in(k, 0, 3) || !in(other, 0, 3)) {
            return -1;
        }
        if (rows[k] == null || rows[other] == null) {
            return fail(1);
        }
        if (rows[k].lane != rows[other].lane) {
            return fail(2);
        }
        if (i < 0 || j < 0 || n < 0 || (long) i + n > rows[k].cells.length || (long) j + n > rows[other].cells.length) {
            return fail(3);
        }
        int[] were = Arrays.copyOfRange(rows[k].cells, i, i + n);
        for (int c = 0; c < n; c++) {
            rows[other].cells[j + c] = were[c];
        }
        return n;
    }

    private void bodies(int... numbers) {
        for (int number : numbers) {
            trace = trace * 31 + number;
        }
    }

    int tell(int k) {
        if (!has(k)) {
            return -1;
        }
        Glass g = glasses.get(k);
        if (g.kind == 0) {
            bodies(1);
            return g.neck;
        }
        if (g.kind == 1) {
            bodies(2, 1);
            return g.neck + 100;
        }
        bodies(3, 2, 1, 1);
        return 2 * g.neck + 100;
    }

    int dust(int k) {
        if (!has(k)) {
            return -1;
        }
        boolean own = glasses.get(k).kind == 2;
        bodies(own ? 5 : 4);
        return own ? 50 : k;
    }

    int as(int k, int kind) {
        fault = 0;
        if (!has(k)) {
            return -1;
        }
        if (!in(kind, 0, 2)) {
            return -2;
        }
        return kind > glasses.get(k).kind ? fail(2) : 1;
    }

    int trace() {
        return trace;
    }

    int fault() {
        return fault;
    }

    int many(int what) {
        if (!in(what, 0, 3)) {
            return -2;
        }
        return new int[] {glasses.size(), Integer.bitCount(living(glasses)), year, readings.size()}[what];
    }
}
