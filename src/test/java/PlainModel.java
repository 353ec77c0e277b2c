import java.math.BigInteger;
import java.util.ArrayList;
import java.util.List;
import java.util.regex.Matcher;
import java.util.regex.Pattern;

/** The document told a second time, as slowly and plainly as can be: nothing is kept that can be worked out. */
final class PlainModel {
    private static final int UNKNOWN = -1, OUTSIDE = -2, STATE = -3, FULL = -4, NO = -5, NONE = -6;
    private static final int GONE = -1000000000;
    private static final long LOST = -1000000000000000000L;
    private static final Pattern ITEM = Pattern.compile("([xls])([0-9]{1,2})(?:-([0-9]{1,2}))?");

    private static final class Item {
        char kind;
        int from;
        int to;
    }

    private static final class Can {
        int x;
        int y;
        int[] miss = new int[3];
        Integer[] raw = new Integer[28];
        List<Item> notes = new ArrayList<>();

        Can copy() {
            Can c = new Can();
            c.x = x;
            c.y = y;
            c.miss = miss.clone();
            c.raw = raw.clone();
            c.notes = new ArrayList<>(notes);
            return c;
        }
    }

    private static final class World {
        List<Can> cans = new ArrayList<>();
        int[] wind = new int[28];
        List<int[]> fixes = new ArrayList<>();
        List<int[]> radars = new ArrayList<>();
        int[] set = {10, 50, 5, 1};

        World copy() {
            World w = new World();
            for (Can c : cans) {
                w.cans.add(c.copy());
            }
            w.wind = wind.clone();
            w.fixes = new ArrayList<>(fixes);
            w.radars = new ArrayList<>(radars);
            w.set = set.clone();
            return w;
        }
    }

    private World w = new World();
    private String signs = "";
    private final World[] images = new World[2];

    // ---- part 1

    int can(int x, int y) {
        if (outside(x, 0, 20) || outside(y, 0, 20)) {
            return OUTSIDE;
        }
        if (w.cans.size() == 6) {
            return FULL;
        }
        Can c = new Can();
        c.x = x;
        c.y = y;
        w.cans.add(c);
        return w.cans.size() - 1;
    }

    int miss(int can, int wind, int tenths) {
        if (noCan(can)) {
            return UNKNOWN;
        }
        if (outside(wind, 0, 2) || outside(tenths, 0, 9)) {
            return OUTSIDE;
        }
        int was = w.cans.get(can).miss[wind];
        w.cans.get(can).miss[wind] = tenths;
        return was;
    }

    int wind(int day, int v) {
        if (noDay(day)) {
            return UNKNOWN;
        }
        if (outside(v, 0, 2)) {
            return OUTSIDE;
        }
        int was = w.wind[day];
        w.wind[day] = v;
        return was;
    }

    int raw(int can, int day, int v) {
        if (noCan(can) || noDay(day)) {
            return UNKNOWN;
        }
        if (outside(v, -1, 999)) {
            return OUTSIDE;
        }
        Integer was = w.cans.get(can).raw[day];
        w.cans.get(can).raw[day] = v == -1 ? null : (Integer) v;
        return tell(was);
    }

    int fix(int can, int day, int v) {
        if (noCan(can) || noDay(day)) {
            return UNKNOWN;
        }
        if (outside(v, -1, 999)) {
            return OUTSIDE;
        }
        if (w.fixes.size() == 20) {
            return FULL;
        }
        w.fixes.add(new int[] {can, day, v});
        return w.fixes.size();
    }

    int undo() {
        if (w.fixes.isEmpty()) {
            return NO;
        }
        w.fixes.remove(w.fixes.size() - 1);
        return w.fixes.size();
    }

    int say(int sign) {
        if (outside(sign, 33, 126)) {
            return OUTSIDE;
        }
        if (signs.length() == 40) {
            return FULL;
        }
        signs += (char) sign;
        return signs.length();
    }

    int wipe() {
        int n = signs.length();
        signs = "";
        return n;
    }

    /** A text can stand so far, if it is whole with some ending put behind it. */
    private static boolean canStand(String text) {
        for (String end : new String[] {"", "1", "x1"}) {
            if (isWhole(text + end)) {
                return true;
            }
        }
        return false;
    }

    private static boolean isWhole(String text) {
        return text.matches(ITEM.pattern() + "(?:;" + ITEM.pattern() + ")*");
    }

    int fault() {
        for (int n = 1; n <= signs.length(); n++) {
            if (!canStand(signs.substring(0, n))) {
                return n - 1;
            }
        }
        return isWhole(signs) ? NONE : signs.length();
    }

    int note(int can) {
        if (noCan(can)) {
            return UNKNOWN;
        }
        List<Item> items = new ArrayList<>();
        if (!signs.isEmpty()) {
            if (!isWhole(signs)) {
                return NO;
            }
            for (String text : signs.split(";")) {
                Item item = item(text);
                if (item == null) {
                    return NO;
                }
                items.add(item);
            }
        }
        for (int a = 0; a < items.size(); a++) {
            for (int b = 0; b < a; b++) {
                if (items.get(a).from <= items.get(b).to && items.get(b).from <= items.get(a).to) {
                    return NO;
                }
            }
        }
        w.cans.get(can).notes = items;
        signs = "";
        return items.size();
    }

    private static Item item(String text) {
        Matcher m = ITEM.matcher(text);
        if (!m.matches()) {
            throw new IllegalStateException(text);
        }
        Item item = new Item();
        item.kind = m.group(1).charAt(0);
        item.from = Integer.parseInt(m.group(2));
        item.to = m.group(3) == null ? item.from : Integer.parseInt(m.group(3));
        if (item.from > 27 || item.to > 27 || m.group(3) != null && item.to <= item.from) {
            return null;
        }
        if (item.kind == 'l' && item.from == 0) {
            return null;
        }
        if (item.kind == 's' && m.group(3) == null) {
            item.from--;
            return item.from < 0 ? null : item;
        }
        return item;
    }

    private Item itemOf(int can, int day, char kind) {
        for (Item item : w.cans.get(can).notes) {
            if (item.kind == kind && item.from <= day && day <= item.to) {
                return item;
            }
        }
        return null;
    }

    private Integer fixed(int can, int day) {
        for (int n = w.fixes.size() - 1; n >= 0; n--) {
            int[] fix = w.fixes.get(n);
            if (fix[0] == can && fix[1] == day) {
                return fix[2] == -1 ? null : (Integer) fix[2];
            }
        }
        return w.cans.get(can).raw[day];
    }

    private Integer read(int can, int day) {
        if (itemOf(can, day, 'x') != null) {
            return null;
        }
        Item sum = itemOf(can, day, 's');
        if (sum != null && day < sum.to) {
            return null;
        }
        if (itemOf(can, day + 1, 'l') != null) {
            return fixed(can, day + 1);
        }
        return itemOf(can, day, 'l') != null ? null : fixed(can, day);
    }

    private int caughtToFallen(int can, int day, int v) {
        return v * 10 / (10 - w.cans.get(can).miss[w.wind[day]]);
    }

    private Integer plain(int can, int day) {
        Integer read = read(can, day);
        if (read == null || itemOf(can, day, 's') != null) {
            return null;
        }
        return caughtToFallen(can, day, read);
    }

    private int far(int x, int y, int x2, int y2) {
        return Math.abs(x - x2) + Math.abs(y - y2);
    }

    private Integer expected(int can, int day) {
        List<Integer> told = new ArrayList<>();
        Can me = w.cans.get(can);
        for (int other = 0; other < w.cans.size(); other++) {
            Can c = w.cans.get(other);
            if (other != can && far(me.x, me.y, c.x, c.y) <= w.set[0] && plain(other, day) != null) {
                told.add(plain(other, day));
            }
        }
        int sum = 0;
        for (int t : told) {
            sum += t;
        }
        return told.isEmpty() ? null : (Integer) (sum / told.size());
    }

    private Integer value(int can, int day) {
        Item sum = itemOf(can, day, 's');
        if (sum == null) {
            return plain(can, day);
        }
        Integer read = read(can, sum.to);
        if (read == null) {
            return null;
        }
        int all = caughtToFallen(can, sum.to, read);
        int together = 0;
        for (int d = sum.from; d <= sum.to; d++) {
            together += zero(expected(can, d));
        }
        int others = 0;
        for (int d = sum.from; d < sum.to; d++) {
            int share = together == 0 ? 0 : all * zero(expected(can, d)) / together;
            if (d == day) {
                return share;
            }
            others += share;
        }
        return all - others;
    }

    int of(int can, int day, int what) {
        if (noCan(can) || noDay(day)) {
            return UNKNOWN;
        }
        switch (what) {
            case 0: return tell(w.cans.get(can).raw[day]);
            case 1: return tell(fixed(can, day));
            case 2: return tell(read(can, day));
            case 3: return tell(plain(can, day));
            case 4: return tell(expected(can, day));
            case 5: return tell(value(can, day));
            default: return OUTSIDE;
        }
    }

    // ---- part 2

    int set(int which, int v) {
        int[][] spans = {{1, 40}, {0, 999}, {0, 99}, {0, 9}};
        if (outside(which, 0, 3) || outside(v, spans[which][0], spans[which][1])) {
            return OUTSIDE;
        }
        int was = w.set[which];
        w.set[which] = v;
        return was;
    }

    private static List<int[]> allMendings() {
        List<int[]> all = new ArrayList<>();
        for (int i = 0; i <= 5; i++) {
            all.add(new int[] {0, i, 0});
        }
        for (int i = 1; i <= 6; i++) {
            for (int j = i; j <= 6; j++) {
                all.add(new int[] {1, i, j});
            }
        }
        for (int i = 0; i <= 5; i++) {
            for (int j = i + 1; j <= Math.min(6, i + 2); j++) {
                all.add(new int[] {2, i, j});
            }
        }
        return all;
    }

    private static List<Integer> mend(List<Integer> row, int[] m, int[] expected) {
        List<Integer> out = new ArrayList<>(row);
        if (m[0] == 0) {
            out.add(m[1], out.remove(m[1] + 1));
        } else if (m[0] == 1) {
            out.add(m[2] + 1, 0);
            out.remove(m[1] - 1);
        } else {
            int together = expected[m[2]];
            for (int k = m[1]; k < m[2]; k++) {
                if (row.get(k) != 0) {
                    return null;
                }
                together += expected[k];
            }
            int left = row.get(m[2]);
            for (int k = m[1]; k < m[2] && together > 0; k++) {
                out.set(k, row.get(m[2]) * expected[k] / together);
                left -= out.get(k);
            }
            out.set(m[2], left);
        }
        return out;
    }

    int week(int can, int day, int what) {
        if (noCan(can) || outside(day, 0, 21)) {
            return UNKNOWN;
        }
        if (outside(what, 0, 3)) {
            return OUTSIDE;
        }
        int[] expected = new int[7];
        List<Integer> row = new ArrayList<>();
        for (int k = 0; k < 7; k++) {
            expected[k] = zero(expected(can, day + k));
            row.add(zero(value(can, day + k)));
        }
        int[] best = {misfit(row, expected), 0, NONE, NONE};
        List<int[]> found = new ArrayList<>();
        found.add(best);
        for (int[] a : allMendings()) {
            List<Integer> once = mend(row, a, expected);
            if (once == null) {
                continue;
            }
            found.add(new int[] {misfit(once, expected) + w.set[1], 1, code(a), NONE});
            for (int[] b : allMendings()) {
                List<Integer> twice = mend(once, b, expected);
                if (twice != null) {
                    found.add(new int[] {misfit(twice, expected) + 2 * w.set[1], 2, code(a), code(b)});
                }
            }
        }
        for (int[] f : found) {
            if (isAhead(f, best)) {
                best = f;
            }
        }
        return best[what];
    }

    private static boolean isAhead(int[] a, int[] b) {
        for (int k = 0; k < 4; k++) {
            if (a[k] != b[k]) {
                return a[k] < b[k];
            }
        }
        return false;
    }

    private static int code(int[] m) {
        return 100 * m[0] + 10 * m[1] + m[2];
    }

    private static int misfit(List<Integer> row, int[] expected) {
        int sum = 0;
        for (int k = 0; k < 7; k++) {
            sum += Math.abs(row.get(k) - expected[k]);
        }
        return sum;
    }

    // ---- part 3

    private List<int[]> differences(int can) {
        List<int[]> all = new ArrayList<>();
        for (int d = 0; d < 28; d++) {
            if (value(can, d) != null && expected(can, d) != null) {
                all.add(new int[] {value(can, d) - expected(can, d), d});
            }
        }
        return all;
    }

    private static int sum(List<int[]> row, int from, int to) {
        int sum = 0;
        for (int[] r : row.subList(from, to)) {
            sum += r[0];
        }
        return sum;
    }

    private static long greatness(List<int[]> row, int k) {
        int n = row.size();
        BigInteger d = BigInteger.valueOf((long) sum(row, 0, k) * (n - k) - (long) sum(row, k, n) * k);
        return d.multiply(d).divide(BigInteger.valueOf((long) k * (n - k))).longValueExact();
    }

    private static int bestParting(List<int[]> row) {
        int best = 4;
        for (int k = 5; k <= row.size() - 4; k++) {
            if (greatness(row, k) > greatness(row, best)) {
                best = k;
            }
        }
        return best;
    }

    int breaks(int can, int what) {
        if (noCan(can)) {
            return GONE + UNKNOWN;
        }
        if (outside(what, 0, 1)) {
            return GONE + OUTSIDE;
        }
        List<int[]> row = differences(can);
        int n = row.size();
        if (n < 8) {
            return GONE + NO;
        }
        int k = bestParting(row);
        if (what == 0) {
            return row.get(k)[1];
        }
        return (sum(row, k, n) * k - sum(row, 0, k) * (n - k)) / (k * (n - k));
    }

    int chance(int can, int seed) {
        if (noCan(can)) {
            return UNKNOWN;
        }
        if (outside(seed, 0, 9999)) {
            return OUTSIDE;
        }
        List<int[]> row = differences(can);
        if (row.size() < 8) {
            return NO;
        }
        long own = greatness(row, bestParting(row));
        int found = 0;
        long s = seed;
        for (int times = 0; times < 99; times++) {
            for (int i = row.size() - 1; i > 0; i--) {
                s = (s * 75 + 74) % 65537;
                java.util.Collections.swap(row, i, (int) (s % (i + 1)));
            }
            if (greatness(row, bestParting(row)) >= own) {
                found++;
            }
        }
        return found;
    }

    // ---- part 4

    int radar(int day, int x, int y, int least, int most) {
        if (noDay(day)) {
            return UNKNOWN;
        }
        if (outside(x, 0, 20) || outside(y, 0, 20) || outside(least, 0, 999) || outside(most, 0, 999) || least > most) {
            return OUTSIDE;
        }
        if (w.radars.size() == 6) {
            return FULL;
        }
        w.radars.add(new int[] {day, x, y, least, most});
        return w.radars.size() - 1;
    }

    int blind() {
        int n = w.radars.size();
        w.radars.clear();
        return n;
    }

    private int[] bounds(int day, int x, int y) {
        int least = 0;
        int most = 9999;
        for (int c = 0; c < w.cans.size(); c++) {
            Integer v = value(c, day);
            if (v != null) {
                int give = w.set[2] * far(x, y, w.cans.get(c).x, w.cans.get(c).y);
                least = Math.max(least, v - give);
                most = Math.min(most, v + give);
            }
        }
        for (int[] r : w.radars) {
            if (r[0] == day) {
                int give = w.set[2] * far(x, y, r[1], r[2]);
                least = Math.max(least, r[3] - give);
                most = Math.min(most, r[4] + give);
            }
        }
        return least > most ? null : new int[] {least, most};
    }

    int bound(int day, int x, int y, int end) {
        if (noDay(day)) {
            return UNKNOWN;
        }
        if (outside(x, 0, 20) || outside(y, 0, 20) || outside(end, 0, 1)) {
            return OUTSIDE;
        }
        int[] b = bounds(day, x, y);
        return b == null ? NO : b[end];
    }

    private boolean noLand(int fromX, int toX, int fromY, int toY) {
        return outside(fromX, 0, 20) || outside(toX, fromX, 20) || outside(fromY, 0, 20) || outside(toY, fromY, 20);
    }

    private long[] sums(int day, int fromX, int toX, int fromY, int toY) {
        long[] sums = new long[2];
        for (int x = fromX; x <= toX; x++) {
            for (int y = fromY; y <= toY; y++) {
                int[] b = bounds(day, x, y);
                if (b == null) {
                    return null;
                }
                sums[0] += b[0];
                sums[1] += b[1];
            }
        }
        return sums;
    }

    int over(int day, int fromX, int toX, int fromY, int toY, int end) {
        if (noDay(day)) {
            return UNKNOWN;
        }
        if (noLand(fromX, toX, fromY, toY) || outside(end, 0, 1)) {
            return OUTSIDE;
        }
        long[] sums = sums(day, fromX, toX, fromY, toY);
        return sums == null ? NO : (int) sums[end];
    }

    int flow(int day, int fromX, int toX, int fromY, int toY, int part, int flow) {
        if (noDay(day)) {
            return GONE + UNKNOWN;
        }
        if (noLand(fromX, toX, fromY, toY) || outside(part, 0, 100) || outside(flow, 0, 9999999)) {
            return GONE + OUTSIDE;
        }
        long[] sums = sums(day, fromX, toX, fromY, toY);
        if (sums == null) {
            return GONE + NO;
        }
        long low = sums[0] * (100 - part) / 100;
        if (low <= flow && sums[1] >= flow) {
            return 0;
        }
        return (int) (flow > sums[1] ? flow - sums[1] : flow - low);
    }

    int fill(int can, int day, int what) {
        if (noCan(can) || noDay(day)) {
            return UNKNOWN;
        }
        if (outside(what, 0, 1)) {
            return OUTSIDE;
        }
        if (value(can, day) != null) {
            return STATE;
        }
        int[] b = bounds(day, w.cans.get(can).x, w.cans.get(can).y);
        if (b == null) {
            return NO;
        }
        return what == 0 ? (b[0] + b[1]) / 2 : (b[1] - b[0]) / 2 + 1;
    }

    int place(int fromX, int toX, int fromY, int toY) {
        if (noLand(fromX, toX, fromY, toY)) {
            return OUTSIDE;
        }
        int best = -1;
        int bestSum = 0;
        for (int code = 0; code <= 2020; code++) {
            if (code % 100 > 20) {
                continue;
            }
            int sum = 0;
            for (int x = fromX; x <= toX; x++) {
                for (int y = fromY; y <= toY; y++) {
                    int near = far(x, y, code / 100, code % 100);
                    for (Can c : w.cans) {
                        near = Math.min(near, far(x, y, c.x, c.y));
                    }
                    sum += near;
                }
            }
            if (best == -1 || sum < bestSum) {
                best = code;
                bestSum = sum;
            }
        }
        return best;
    }

    // ---- part 5

    private boolean noRow(int row) {
        return row < 1 || row > 666666 || !Integer.toString(row).matches("[0-6]+");
    }

    private int recordCan(int row, int day) {
        for (char digit : Integer.toString(row).toCharArray()) {
            int can = digit - '1';
            if (can >= 0 && can < w.cans.size() && value(can, day) != null) {
                return can;
            }
        }
        return NONE;
    }

    int record(int row, int day, int what) {
        if (noRow(row) || outside(what, 0, 1)) {
            return OUTSIDE;
        }
        if (noDay(day)) {
            return UNKNOWN;
        }
        int can = recordCan(row, day);
        return can == NONE ? NONE : what == 1 ? can : value(can, day);
    }

    int seam(int row, int i) {
        if (noRow(row)) {
            return OUTSIDE;
        }
        List<Integer> seams = new ArrayList<>();
        int sum = 0;
        int last = NONE;
        for (int d = 0; d < 28; d++) {
            int can = recordCan(row, d);
            if (can != NONE) {
                sum += value(can, d);
                if (last != NONE && last != can) {
                    seams.add(d);
                }
                last = can;
            }
        }
        if (i == -2) {
            return sum;
        }
        if (i == -1) {
            return seams.size();
        }
        return i >= 0 && i < seams.size() ? seams.get(i) : NONE;
    }

    int claim(int can, int day) {
        if (noCan(can) || noDay(day)) {
            return UNKNOWN;
        }
        Integer own = value(can, day);
        if (own == null) {
            return STATE;
        }
        boolean allBelow = true;
        boolean someAbove = false;
        for (int c = 0; c < w.cans.size(); c++) {
            for (int d = 0; d < 28; d++) {
                Integer v = value(c, d);
                if (v != null && (c != can || d != day)) {
                    allBelow &= v * (10 + w.set[3]) / 10 < own;
                    someAbove |= v > own * (10 + w.set[3]) / 10;
                }
            }
        }
        return allBelow ? 2 : someAbove ? 0 : 1;
    }

    private int[] countFives(int can) {
        int[] counts = new int[2];
        for (Integer v : w.cans.get(can).raw) {
            if (v != null && v > 0 && counts[1] < 26) {
                counts[1]++;
                String text = v.toString();
                counts[0] += text.endsWith("0") || text.endsWith("5") ? 1 : 0;
            }
        }
        return counts;
    }

    int fives(int can, int what) {
        if (noCan(can)) {
            return UNKNOWN;
        }
        return outside(what, 0, 1) ? OUTSIDE : countFives(can)[what];
    }

    long odds(int can, int part) {
        if (noCan(can)) {
            return LOST + UNKNOWN;
        }
        if (outside(part, 0, 1)) {
            return LOST + OUTSIDE;
        }
        int[] counts = countFives(can);
        // chance[k]: the upper number, over 5 to the n, that just k of n do
        BigInteger[] chance = new BigInteger[counts[1] + 1];
        java.util.Arrays.fill(chance, BigInteger.ZERO);
        chance[0] = BigInteger.ONE;
        for (int n = 0; n < counts[1]; n++) {
            for (int k = n + 1; k >= 0; k--) {
                BigInteger from = k == 0 ? BigInteger.ZERO : chance[k - 1];
                chance[k] = chance[k].multiply(BigInteger.valueOf(4)).add(from);
            }
        }
        BigInteger upper = BigInteger.ZERO;
        for (int k = counts[0]; k <= counts[1]; k++) {
            upper = upper.add(chance[k]);
        }
        BigInteger lower = BigInteger.valueOf(5).pow(counts[1]);
        BigInteger shared = upper.gcd(lower);
        return (part == 0 ? upper : lower).divide(shared).longValueExact();
    }

    int forgets(int can, int what) {
        if (noCan(can)) {
            return UNKNOWN;
        }
        if (outside(what, 0, 1)) {
            return OUTSIDE;
        }
        int best = -1;
        int weekday = -1;
        for (int k = 0; k < 7; k++) {
            int count = 0;
            for (int d = k; d < 28; d += 7) {
                count += w.cans.get(can).raw[d] == null ? 1 : 0;
            }
            if (count > best) {
                best = count;
                weekday = k;
            }
        }
        return what == 0 ? weekday : best;
    }

    int image(int n) {
        if (outside(n, 0, 1)) {
            return OUTSIDE;
        }
        images[n] = w.copy();
        return 1;
    }

    int restore(int n) {
        if (outside(n, 0, 1)) {
            return OUTSIDE;
        }
        if (images[n] == null) {
            return STATE;
        }
        w = images[n].copy();
        return 1;
    }

    int told(int what) {
        int[] first = {w.cans.size(), w.fixes.size(), signs.length(), w.radars.size()};
        if (what >= 0 && what < 4) {
            return first[what];
        }
        if (what >= 4 && what < 8) {
            return w.set[what - 4];
        }
        return what >= 10 && what < 38 ? w.wind[what - 10] : OUTSIDE;
    }

    private boolean noCan(int can) {
        return can < 0 || can >= w.cans.size();
    }

    private static boolean noDay(int day) {
        return day < 0 || day > 27;
    }

    private static boolean outside(int v, int least, int most) {
        return v < least || v > most;
    }

    private static int tell(Integer v) {
        return v == null ? NONE : v;
    }

    private static int zero(Integer v) {
        return v == null ? 0 : v;
    }
}
