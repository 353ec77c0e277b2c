/** Promises 13 to 16: what is set, weeks, breaks. */
public final class WeeksTest {
    private final Due due = new Due();

    public static void main(String[] args) {
        WeeksTest test = new WeeksTest();
        test.set();
        test.weekKinds();
        test.weekOrder();
        test.weekRefusals();
        test.breaks();
        test.breaksByHand();
        test.breaksByHowMany();
        test.chance();
        test.due.end();
    }

    private void set() {
        due.about("promise 13");
        RainCans x = new RainCans();
        int[] first = {10, 50, 5, 1};
        int[] least = {1, 0, 0, 0};
        int[] most = {40, 999, 99, 9};
        for (int which = 0; which < 4; which++) {
            due.is("set(" + which + ", least)", x.set(which, least[which]), first[which]);
            due.is("set(" + which + ", most)", x.set(which, most[which]), least[which]);
            due.is("set(" + which + ", below)", x.set(which, least[which] - 1), -2);
            due.is("set(" + which + ", above)", x.set(which, most[which] + 1), -2);
            due.is("told(" + (4 + which) + ")", x.told(4 + which), most[which]);
        }
        due.is("set(4, 1)", x.set(4, 1), -2);
        due.is("set(-1, 1)", x.set(-1, 1), -2);
        due.is("set(MAX, 1)", x.set(Integer.MAX_VALUE, 1), -2);
    }

    /** A week of CAN 0 from a DAY on beside what CAN 1 leads one to expect. */
    private static RainCans weekOf(int from, int price, int[] row, int[] expected) {
        RainCans x = new RainCans();
        x.can(0, 0);
        x.can(1, 0);
        x.set(1, price);
        for (int k = 0; k < 7; k++) {
            x.raw(0, from + k, row[k]);
            x.raw(1, from + k, expected[k]);
        }
        return x;
    }

    private void explained(String what, RainCans x, int from, int... want) {
        for (int k = 0; k < 4; k++) {
            due.is(what + ": week(0, " + from + ", " + k + ")", x.week(0, from, k), want[k]);
        }
    }

    private void weekKinds() {
        due.about("promise 14");
        int[] e = {10, 90, 5, 80, 3, 70, 0};
        explained("nothing to mend", weekOf(0, 0, e, e), 0, 0, 0, -6, -6);
        int[] swapped = {10, 90, 5, 80, 3, 0, 70};
        explained("the last two changed about", weekOf(3, 5, swapped, e), 3, 5, 1, 50, -6);
        int[] late = {0, 10, 90, 5, 80, 3, 70};
        explained("all a DAY late", weekOf(0, 5, late, e), 0, 5, 1, 116, -6);
        int[] someLate = {10, 90, 11, 5, 80, 3, 0};
        int[] ahead = {10, 90, 5, 80, 3, 0, 0};
        explained("some a DAY late", weekOf(21, 5, someLate, ahead), 21, 5, 1, 135, -6);
        explained("one DAY late, what it falls on is lost",
            weekOf(0, 5, new int[] {7, 50, 0, 0, 0, 0, 0}, new int[] {50, 0, 0, 0, 0, 0, 0}), 0, 5, 1, 111, -6);
        explained("two DAYS together", weekOf(0, 5, new int[] {0, 100, 5, 80, 3, 70, 0}, e), 0, 5, 1, 201, -6);
        explained("three DAYS together", weekOf(0, 5, new int[] {10, 90, 5, 80, 0, 0, 73}, e), 0, 5, 1, 246, -6);
        explained("the last two DAYS together",
            weekOf(0, 5, new int[] {10, 90, 5, 80, 3, 0, 90}, new int[] {10, 90, 5, 80, 3, 70, 20}), 0, 5, 1, 256, -6);
        explained("the second ahead of the first",
            weekOf(0, 5, new int[] {20, 50, 90, 0, 0, 0, 0}, new int[] {90, 20, 50, 0, 0, 0, 0}), 0, 10, 2, 10, 0);
        explained("two changes", weekOf(0, 5, new int[] {90, 10, 5, 80, 70, 3, 0}, e), 0, 10, 2, 0, 40);
        explained("a SUM of a WEEK with cut parts",
            weekOf(0, 1, new int[] {0, 0, 100, 0, 0, 0, 0}, new int[] {30, 31, 30, 0, 0, 0, 0}), 0, 10, 1, 202, -6);
        explained("nothing is READ", weekOf(0, 5, new int[] {-1, -1, -1, -1, -1, -1, -1}, e), 0, 258, 0, -6, -6);
        // the two greatest are lost: 258 less 170, and two PRICES
        explained("nothing is EXPECTED", weekOf(0, 5, e, new int[] {-1, -1, -1, -1, -1, -1, -1}), 0, 98, 2, 122, 144);
    }

    private void weekOrder() {
        due.about("promise 14, of several");
        // swapping costs as much as leaving it: the fewest
        explained("the fewest", weekOf(0, 20, new int[] {10, 0, 0, 0, 0, 0, 0}, new int[] {0, 10, 0, 0, 0, 0, 0}),
            0, 20, 0, -6, -6);
        explained("the first kind", weekOf(0, 19, new int[] {0, 10, 0, 0, 0, 0, 0}, new int[] {10, 0, 0, 0, 0, 0, 0}),
            0, 19, 1, 0, -6);
        // both orders of the two come to the same: the lower one first
        explained("the first one's order", weekOf(0, 1, new int[] {1, 9, 0, 0, 0, 2, 8}, new int[] {9, 1, 0, 0, 0, 8, 2}),
            0, 2, 2, 0, 50);
        explained("price 0", weekOf(0, 0, new int[] {0, 10, 0, 0, 0, 0, 0}, new int[] {10, 0, 0, 0, 0, 0, 0}),
            0, 0, 1, 0, -6);
    }

    private void weekRefusals() {
        due.about("promise 14, refused");
        RainCans x = new RainCans();
        due.is("week(0, 0, 0) without a CAN", x.week(0, 0, 0), -1);
        x.can(0, 0);
        due.is("week(0, 22, 0)", x.week(0, 22, 0), -1);
        due.is("week(0, -1, 0)", x.week(0, -1, 0), -1);
        due.is("week(0, 21, 0)", x.week(0, 21, 0), 0);
        due.is("week(0, 21, 2)", x.week(0, 21, 2), -6);
        due.is("week(0, 21, 4)", x.week(0, 21, 4), -2);
        due.is("week(0, 21, -1)", x.week(0, 21, -1), -2);
        due.is("week(0, 22, 4), UNKNOWN ahead of OUTSIDE", x.week(0, 22, 4), -1);
        due.is("week(1, 0, 4)", x.week(1, 0, 4), -1);
    }

    /** DIFFERENCES of CAN 0 on every second DAY from DAY 1 on, EXPECTED 100 each. */
    private static RainCans differing(int... differences) {
        RainCans x = new RainCans();
        x.can(0, 0);
        x.can(3, 3);
        for (int k = 0; k < differences.length; k++) {
            x.raw(0, 1 + 2 * k, 100 + differences[k]);
            x.raw(1, 1 + 2 * k, 100);
            x.raw(k % 2, 2 * k, 999);
        }
        return x;
    }

    private void breaks() {
        due.about("promise 15");
        RainCans x = differing(0, 0, 0, 0, 10, 10, 10, 10);
        due.is("breaks(0, 0)", x.breaks(0, 0), 9);
        due.is("breaks(0, 1)", x.breaks(0, 1), 10);
        due.is("breaks(1, 0)", x.breaks(1, 0), 9);
        due.is("breaks(1, 1)", x.breaks(1, 1), -10);
        x.raw(1, 15, -1);
        due.is("breaks(0, 0) of seven", x.breaks(0, 0), -1000000005);
        due.is("breaks(0, 1) of seven", x.breaks(0, 1), -1000000005);
        due.is("chance(0, 1) of seven", x.chance(0, 1), -5);
        due.is("breaks(2, 5)", x.breaks(2, 5), -1000000001);
        due.is("breaks(-1, 0)", x.breaks(-1, 0), -1000000001);
        due.is("breaks(0, 2)", x.breaks(0, 2), -1000000002);
        due.is("breaks(0, -1)", x.breaks(0, -1), -1000000002);
    }

    private void breaksByHand() {
        due.about("promise 15, by hand");
        // nine: parted behind four the square of (4 by 5 less 0 by 4) by 20 is 20, behind five (5 by 4) by 20 is 20 too
        RainCans x = differing(1, 1, 1, 1, 0, 0, 0, 0, 0);
        due.is("breaks(0, 0)", x.breaks(0, 0), 9);
        due.is("breaks(0, 1), cut towards 0", x.breaks(0, 1), -1);
        // no DIFFERENCE at all: the first parting
        x = differing(5, 5, 5, 5, 5, 5, 5, 5, 5, 5);
        due.is("breaks(0, 0)", x.breaks(0, 0), 9);
        due.is("breaks(0, 1)", x.breaks(0, 1), 0);
        // the break lies behind six of ten
        x = differing(0, 1, 0, 1, 0, 1, -30, -31, -30, -32);
        due.is("breaks(0, 0)", x.breaks(0, 0), 13);
        // (-123 by 6 less 3 by 4) by 24 = -750 by 24
        due.is("breaks(0, 1)", x.breaks(0, 1), -31);
        // each part has four at least, even if the step is behind three
        x = differing(90, 90, 90, 0, 0, 0, 0, 0, 0);
        due.is("breaks(0, 0)", x.breaks(0, 0), 9);
        due.is("breaks(0, 1): -270 by 4", x.breaks(0, 1), -67);
        // 4 of 9 against 5 of 9: squares 80 by 20 = 4 and 64 by 20 = 3
        x = differing(1, 1, 0, 0, 0, 0, 0, 0, 0);
        due.is("breaks(0, 1): -2 by 4 is cut to 0", x.breaks(0, 1), 0);
    }

    private void breaksByHowMany() {
        due.about("promise 15, by how many are in the parts");
        // behind four 2840 by itself by 32 is 252050; behind six 2940 by itself by 36 is 240100
        RainCans x = differing(100, 100, 100, 100, 45, 45, 0, 0, 0, 0, 0, 0);
        due.is("breaks(0, 0)", x.breaks(0, 0), 9);
        due.is("breaks(0, 1): -2840 by 32", x.breaks(0, 1), -88);
        // on DAY 0 there is a DIFFERENCE, too: the first four are on DAYS 0, 1, 3, 5 then
        x = differing(0, 0, 0, 10, 10, 10, 10);
        due.is("breaks(0, 0) of seven", x.breaks(0, 0), -1000000005);
        x.raw(0, 0, 100);
        x.raw(1, 0, 100);
        due.is("breaks(0, 0) of eight", x.breaks(0, 0), 7);
        due.is("breaks(0, 1) of eight", x.breaks(0, 1), 10);
    }

    private void chance() {
        due.about("promise 16");
        RainCans x = differing(5, 5, 5, 5, 5, 5, 5, 5);
        due.is("chance(0, 0): all are as great", x.chance(0, 0), 99);
        due.is("chance(0, 9999)", x.chance(0, 9999), 99);
        due.is("chance(0, 10000)", x.chance(0, 10000), -2);
        due.is("chance(0, -1)", x.chance(0, -1), -2);
        due.is("chance(2, -1)", x.chance(2, -1), -1);
        due.is("chance(0, 0), asked again", x.chance(0, 0), 99);
        int[] row = {0, 3, 0, 2, 1, 4, 9, 8, 7, 9, 6, 8};
        x = differing(row);
        for (int seed = 0; seed < 10000; seed += 303) {
            due.is("chance(0, " + seed + ")", x.chance(0, seed), shuffled(row, seed));
        }
        int[] flat = {0, 3, 9, 2, 1, 4, 5, 8, 1, 3};
        x = differing(flat);
        int before = x.chance(0, 7);
        due.is("chance(0, 7)", before, shuffled(flat, 7));
        due.holds("it is a chance: " + before, before > 10 && before < 99);
    }

    /** CHANCE told a second time. */
    static int shuffled(int[] differences, int seed) {
        int[] row = differences.clone();
        double own = greatest(row);
        int count = 0;
        for (int times = 1; times <= 99; times++) {
            for (int i = row.length - 1; i >= 1; i--) {
                seed = (75 * seed + 74) % 65537;
                int k = seed % (i + 1);
                int was = row[k];
                row[k] = row[i];
                row[i] = was;
            }
            count += greatest(row) >= own ? 1 : 0;
        }
        return count;
    }

    private static double greatest(int[] row) {
        double best = 0;
        for (int k = 4; k <= row.length - 4; k++) {
            int a = 0;
            int b = 0;
            for (int i = 0; i < row.length; i++) {
                a += i < k ? row[i] : 0;
                b += i < k ? 0 : row[i];
            }
            double d = a * (row.length - k) - b * k;
            best = Math.max(best, Math.floor(d * d / (k * (row.length - k))));
        }
        return best;
    }
}
