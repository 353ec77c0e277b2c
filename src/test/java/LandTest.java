/** Promises 17 to 23: between cans. */
public final class LandTest {
    private static final int MIN = Integer.MIN_VALUE, MAX = Integer.MAX_VALUE;

    private final Due due = new Due();

    public static void main(String[] args) {
        LandTest test = new LandTest();
        test.radarAndBlind();
        test.bound();
        test.over();
        test.flow();
        test.fill();
        test.place();
        test.due.end();
    }

    private void radarAndBlind() {
        due.about("promises 17 and 18");
        RainCans x = new RainCans();
        due.is("radar on DAY 28", x.radar(28, 0, 0, 0, 0), -1);
        due.is("radar on DAY -1, UNKNOWN ahead of OUTSIDE", x.radar(-1, 21, 0, 0, 0), -1);
        due.is("radar at 21, 0", x.radar(0, 21, 0, 0, 0), -2);
        due.is("radar at 0, -1", x.radar(0, 0, -1, 0, 0), -2);
        due.is("radar from -1", x.radar(0, 0, 0, -1, 0), -2);
        due.is("radar to 1000", x.radar(0, 0, 0, 0, 1000), -2);
        due.is("radar from 5 to 4", x.radar(0, 0, 0, 5, 4), -2);
        due.is("radar of far numbers", x.radar(0, MIN, MAX, MIN, MAX), -2);
        due.is("told(3)", x.told(3), 0);
        for (int n = 0; n < 6; n++) {
            due.is("radar", x.radar(27, 20, 0, n, n == 5 ? 999 : n), n);
        }
        due.is("radar, a seventh", x.radar(0, 0, 0, 0, 0), -4);
        due.is("radar, OUTSIDE ahead of FULL", x.radar(0, 0, 0, 1, 0), -2);
        due.is("told(3)", x.told(3), 6);
        due.is("blind()", x.blind(), 6);
        due.is("blind()", x.blind(), 0);
        due.is("told(3)", x.told(3), 0);
        due.is("radar", x.radar(0, 0, 0, 0, 0), 0);
    }

    private void bound() {
        due.about("promise 19");
        RainCans x = new RainCans();
        x.can(10, 10);
        x.raw(0, 0, 20);
        due.is("bound at the CAN, least", x.bound(0, 10, 10, 0), 20);
        due.is("bound at the CAN, most", x.bound(0, 10, 10, 1), 20);
        due.is("bound at 9, 12, least", x.bound(0, 9, 12, 0), 5);
        due.is("bound at 9, 12, most", x.bound(0, 9, 12, 1), 35);
        due.is("bound at 5, 10, least: 0 at least", x.bound(0, 5, 10, 0), 0);
        due.is("bound on another DAY", x.bound(1, 10, 10, 1), 9999);
        x.miss(0, 0, 9);
        x.raw(0, 0, 999);
        x.set(2, 99);
        due.is("bound at 10, 10, most", x.bound(0, 10, 10, 1), 9990);
        due.is("bound at 10, 11, most: 9999 at most", x.bound(0, 10, 11, 1), 9999);
        due.is("bound at 10, 11, least", x.bound(0, 10, 11, 0), 9891);
        x.raw(0, 0, -1);
        x.set(2, 3);
        x.radar(0, 0, 0, 100, 200);
        due.is("bound by a RADAR, least", x.bound(0, 1, 2, 0), 91);
        due.is("bound by a RADAR, most", x.bound(0, 1, 2, 1), 209);
        due.is("bound on another DAY", x.bound(1, 1, 2, 1), 9999);
        x.radar(0, 0, 0, 201, 300);
        due.is("bound at 0, 0: CLASH", x.bound(0, 0, 0, 0), -5);
        due.is("bound at 0, 1: 198 to 203", x.bound(0, 0, 1, 0), 198);
        due.is("bound at 0, 1: 198 to 203", x.bound(0, 0, 1, 1), 203);
        due.is("bound on DAY 28", x.bound(28, 21, 0, 0), -1);
        due.is("bound at 21, 0", x.bound(0, 21, 0, 0), -2);
        due.is("bound at 0, -1", x.bound(0, 0, -1, 0), -2);
        due.is("bound, end 2", x.bound(0, 0, 0, 2), -2);
        due.is("bound, end -1", x.bound(0, 0, 0, -1), -2);
        x.set(2, 0);
        due.is("bound by SLOPE 0", x.bound(0, 20, 20, 0), -5);
    }

    private void over() {
        due.about("promise 20");
        RainCans x = new RainCans();
        due.is("over all without a CAN, least", x.over(0, 0, 20, 0, 20, 0), 0);
        due.is("over all without a CAN, most", x.over(0, 0, 20, 0, 20, 1), 441 * 9999);
        x.can(1, 1);
        x.raw(0, 3, 100);
        // FAR of the nine places: 0, four of 1, four of 2
        due.is("over nine places, least", x.over(3, 0, 2, 0, 2, 0), 900 - 5 * 12);
        due.is("over nine places, most", x.over(3, 0, 2, 0, 2, 1), 900 + 5 * 12);
        due.is("over one place", x.over(3, 1, 1, 1, 1, 0), 100);
        due.is("over a row", x.over(3, 0, 20, 1, 1, 0), 21 * 100 - 5 * 191);
        x.radar(3, 2, 2, 300, 400);
        due.is("over: CLASH somewhere", x.over(3, 0, 2, 0, 2, 1), -5);
        due.is("over DAY 28", x.over(28, 0, 2, 0, 2, 1), -1);
        due.is("over DAY -1, UNKNOWN ahead of OUTSIDE", x.over(-1, 3, 2, 0, 2, 1), -1);
        due.is("over, x falls", x.over(3, 3, 2, 0, 2, 1), -2);
        due.is("over, y falls", x.over(3, 0, 2, 3, 2, 1), -2);
        due.is("over, x till 21", x.over(3, 0, 21, 0, 2, 1), -2);
        due.is("over, x from -1", x.over(3, -1, 2, 0, 2, 1), -2);
        due.is("over, y till 21", x.over(3, 0, 2, 0, 21, 1), -2);
        due.is("over, y from -1", x.over(3, 0, 2, -1, 2, 1), -2);
        due.is("over, end 2", x.over(3, 0, 2, 0, 2, 2), -2);
        due.is("over, far numbers", x.over(3, MIN, MAX, MIN, MAX, 0), -2);
        x.blind();
        due.is("over, when the RADARS are gone", x.over(3, 0, 2, 0, 2, 0), 840);
    }

    private void flow() {
        due.about("promise 21");
        RainCans x = new RainCans();
        x.can(1, 1);
        x.raw(0, 3, 100);
        // OVER is 840 to 960
        due.is("flow 840", x.flow(3, 0, 2, 0, 2, 0, 840), 0);
        due.is("flow 839", x.flow(3, 0, 2, 0, 2, 0, 839), -1);
        due.is("flow 960", x.flow(3, 0, 2, 0, 2, 0, 960), 0);
        due.is("flow 961", x.flow(3, 0, 2, 0, 2, 0, 961), 1);
        due.is("flow 961 of 50 lost", x.flow(3, 0, 2, 0, 2, 50, 961), 1);
        due.is("flow 420 of 50 lost", x.flow(3, 0, 2, 0, 2, 50, 420), 0);
        due.is("flow 411 of 51 lost: the quotient is cut", x.flow(3, 0, 2, 0, 2, 51, 411), 0);
        due.is("flow 410 of 51 lost", x.flow(3, 0, 2, 0, 2, 51, 410), -1);
        due.is("flow 0 of 100 lost", x.flow(3, 0, 2, 0, 2, 100, 0), 0);
        due.is("flow 9999999", x.flow(3, 0, 2, 0, 2, 0, 9999999), 9999039);
        due.is("flow 10000000", x.flow(3, 0, 2, 0, 2, 0, 10000000), -1000000002);
        due.is("flow -1", x.flow(3, 0, 2, 0, 2, 0, -1), -1000000002);
        due.is("flow, part 101", x.flow(3, 0, 2, 0, 2, 101, 5), -1000000002);
        due.is("flow, part -1", x.flow(3, 0, 2, 0, 2, -1, 5), -1000000002);
        due.is("flow, x falls", x.flow(3, 2, 1, 0, 2, 0, 5), -1000000002);
        due.is("flow, y falls", x.flow(3, 0, 2, 2, 1, 0, 5), -1000000002);
        due.is("flow on DAY 28", x.flow(28, 2, 1, 0, 2, 0, 5), -1000000001);
        x.radar(3, 2, 2, 300, 400);
        due.is("flow, CLASH", x.flow(3, 0, 2, 0, 2, 0, 5), -1000000005);
        x.blind();
        x.miss(0, 0, 9);
        x.raw(0, 3, 999);
        x.set(2, 0);
        due.is("flow of the greatest OVER", x.flow(3, 0, 20, 0, 20, 0, 0), -441 * 9990);
    }

    private void fill() {
        due.about("promise 22");
        RainCans x = new RainCans();
        due.is("fill without a CAN", x.fill(0, 0, 0), -1);
        x.can(0, 0);
        x.can(2, 1);
        x.can(0, 5);
        due.is("fill of nothing known", x.fill(0, 0, 0), 4999);
        due.is("its ERROR", x.fill(0, 0, 1), 5000);
        x.raw(1, 0, 40);
        due.is("fill(0, 0, 0)", x.fill(0, 0, 0), 40);
        due.is("fill(0, 0, 1)", x.fill(0, 0, 1), 16);
        x.radar(0, 0, 0, 30, 41);
        due.is("fill(0, 0, 0): half of 30 and 41", x.fill(0, 0, 0), 35);
        due.is("fill(0, 0, 1): half of 11, and 1", x.fill(0, 0, 1), 6);
        due.is("fill(1, 0, 0)", x.fill(1, 0, 0), -3);
        due.is("fill(1, 0, 2), OUTSIDE ahead of STATE", x.fill(1, 0, 2), -2);
        due.is("fill(0, 0, -1)", x.fill(0, 0, -1), -2);
        due.is("fill(0, 28, 2)", x.fill(0, 28, 2), -1);
        due.is("fill(3, 0, 0)", x.fill(3, 0, 0), -1);
        x.raw(1, 3, 40);
        due.is("fill(1, 3, 0)", x.fill(1, 3, 0), -3);
        due.is("fill(2, 3, 0)", x.fill(2, 3, 0), 40);
        due.is("fill(2, 3, 1)", x.fill(2, 3, 1), 31);
        x.raw(2, 0, 400);
        due.is("fill(0, 0, 0), CLASH", x.fill(0, 0, 0), -5);
        due.is("fill(1, 0, 0), STATE ahead of NO", x.fill(1, 0, 0), -3);
    }

    private void place() {
        due.about("promise 23");
        RainCans x = new RainCans();
        due.is("place of all", x.place(0, 20, 0, 20), 1010);
        due.is("place of one", x.place(20, 20, 0, 0), 2000);
        due.is("place of the last one", x.place(20, 20, 20, 20), 2020);
        due.is("place of two: the least x", x.place(4, 5, 7, 7), 407);
        due.is("place of two: the least y", x.place(4, 4, 7, 8), 407);
        x.can(4, 7);
        due.is("place of the other", x.place(4, 5, 7, 7), 507);
        x.can(5, 7);
        due.is("place, when none serves: the least x and y", x.place(4, 5, 7, 7), 0);
        due.is("place beside CANS outside of the LAND", x.place(4, 8, 7, 7), 707);
        due.is("place, x falls", x.place(5, 4, 0, 0), -2);
        due.is("place, y falls", x.place(0, 0, 5, 4), -2);
        due.is("place, from -1", x.place(-1, 4, 0, 0), -2);
        due.is("place, to 21", x.place(0, 4, 0, 21), -2);
        due.is("place, far numbers", x.place(MIN, MAX, 0, 0), -2);
        for (int n = 0; n < 4; n++) {
            x.can(20, 20);
        }
        due.is("place beside six CANS", x.place(0, 2, 18, 20), 119);
        due.is("told(0): it adds none", x.told(0), 6);
    }
}
