/** Part 4 of the terms, promises 17 to 23: one test for each sentence that names an edge. */
public final class EdgesLandTest {
    private static final int MIN = Integer.MIN_VALUE, MAX = Integer.MAX_VALUE;

    private final Due due = new Due();

    public static void main(String[] args) {
        EdgesLandTest test = new EdgesLandTest();
        test.sixRadars();
        test.radarSpans();
        test.radarPlacesAndDays();
        test.blind();
        test.boundsOfNone();
        test.slopes();
        test.zeroAtLeast();
        test.mostAtMost();
        test.boundsOfAll();
        test.radarEnds();
        test.boundsOfValues();
        test.boundsOfTheDay();
        test.clash();
        test.ends();
        test.landEnds();
        test.landOfOnePlace();
        test.landAllTogether();
        test.clashSomewhere();
        test.flowEnds();
        test.held();
        test.heldByPart();
        test.flowQuotientIsCut();
        test.flowClash();
        test.filled();
        test.fillState();
        test.fillClash();
        test.newOfNone();
        test.newOfSeveral();
        test.newIsNeeded();
        test.newBesideSix();
        test.due.end();
    }

    private void sixRadars() {
        due.about("promise 17, RADARS, 6 at most");
        RainCans x = new RainCans();
        for (int n = 0; n < 6; n++) {
            due.is("told(3)", x.told(3), n);
            due.is("radar: its number", x.radar(n, n, n, 100, 200), n);
        }
        due.is("radar, a seventh", x.radar(6, 6, 6, 100, 200), -4);
        due.is("told(3)", x.told(3), 6);
        due.is("bound by the first", x.bound(0, 0, 0, 0), 100);
        due.is("bound by the sixth", x.bound(5, 5, 5, 1), 200);
        due.is("bound by none", x.bound(6, 6, 6, 1), 9999);
    }

    private void radarSpans() {
        due.about("promise 17, a span (0 to 999); OUTSIDE: also least above most");
        int[][] taken = {{0, 0}, {0, 999}, {999, 999}, {0, 1}, {998, 999}, {500, 500}};
        int[][] not = {{-1, 0}, {-1, -1}, {0, 1000}, {999, 1000}, {1000, 1000}, {1, 0}, {999, 998}, {999, 0}, {MIN, MAX},
            {MAX, MIN}, {0, MAX}, {MIN, 0}, {501, 500}};
        for (int[] s : taken) {
            RainCans x = new RainCans();
            due.is("radar from " + s[0] + " to " + s[1], x.radar(3, 4, 5, s[0], s[1]), 0);
            due.is("its least", x.bound(3, 4, 5, 0), s[0]);
            due.is("its most", x.bound(3, 4, 5, 1), s[1]);
        }
        for (int[] s : not) {
            RainCans x = new RainCans();
            due.is("radar from " + s[0] + " to " + s[1], x.radar(3, 4, 5, s[0], s[1]), -2);
            due.is("told(3)", x.told(3), 0);
        }
    }

    private void radarPlacesAndDays() {
        due.about("promise 17, a DAY, a place");
        for (int v = -2; v <= 30; v++) {
            boolean place = v >= 0 && v <= 20;
            boolean day = v >= 0 && v <= 27;
            due.is("radar on DAY " + v, new RainCans().radar(v, 0, 0, 0, 0), day ? 0 : -1);
            due.is("radar at " + v + ", 0", new RainCans().radar(0, v, 0, 0, 0), place ? 0 : -2);
            due.is("radar at 0, " + v, new RainCans().radar(0, 0, v, 0, 0), place ? 0 : -2);
        }
        RainCans x = new RainCans();
        x.radar(27, 20, 0, 40, 50);
        due.is("bound at 20, 0 on DAY 27", x.bound(27, 20, 0, 0), 40);
        due.is("bound at 0, 20 on DAY 27: 40 FAR", x.bound(27, 0, 20, 1), 250);
    }

    private void blind() {
        due.about("promise 18, RADARS go: how many there were");
        RainCans x = new RainCans();
        due.is("blind() of none", x.blind(), 0);
        x.radar(0, 0, 0, 7, 8);
        due.is("blind() of one", x.blind(), 1);
        due.is("bound: it does not hold any more", x.bound(0, 0, 0, 1), 9999);
        due.is("blind() of none", x.blind(), 0);
        for (int n = 0; n < 6; n++) {
            due.is("radar: numbered from 0 on again", x.radar(0, 0, 0, 7, 8), n);
        }
        due.is("blind() of six", x.blind(), 6);
        due.is("radar", x.radar(1, 1, 1, 1, 1), 0);
        due.is("told(3)", x.told(3), 1);
        due.is("bound on DAY 0", x.bound(0, 0, 0, 1), 9999);
    }

    private void boundsOfNone() {
        due.about("promise 19, BOUNDS: 0 at least, 9999 at most, where nothing is known");
        RainCans x = Plots.at(3, 3);
        for (int day = 0; day < 28; day++) {
            due.is("bound on DAY " + day + ", least", x.bound(day, 3, 3, 0), 0);
            due.is("bound on DAY " + day + ", most", x.bound(day, 3, 3, 1), 9999);
        }
    }

    private void slopes() {
        due.about("promise 19, by SLOPE (0 to 99; 5 at first)");
        RainCans x = Plots.at(3, 3);
        x.raw(0, 0, 999);
        due.is("SLOPE 5 at first, least", x.bound(0, 4, 4, 0), 989);
        due.is("SLOPE 5 at first, most", x.bound(0, 4, 4, 1), 1009);
        x.set(2, 0);
        due.is("SLOPE 0, least", x.bound(0, 20, 20, 0), 999);
        due.is("SLOPE 0, most", x.bound(0, 20, 20, 1), 999);
        x.set(2, 99);
        due.is("SLOPE 99, least", x.bound(0, 4, 4, 0), 801);
        due.is("SLOPE 99, most", x.bound(0, 4, 4, 1), 1197);
        x.set(2, 1);
        due.is("SLOPE 1, least", x.bound(0, 20, 20, 0), 965);
    }

    private void zeroAtLeast() {
        due.about("promise 19, VALUE less SLOPE times how FAR it is (0 at least)");
        RainCans x = Plots.at(10, 10);
        x.raw(0, 0, 15);
        int[] least = {15, 10, 5, 0, 0, 0};
        for (int far = 0; far < 6; far++) {
            due.is("bound " + far + " FAR", x.bound(0, 10 + far, 10, 0), least[far]);
        }
        x.raw(0, 0, 0);
        due.is("bound of 0, least", x.bound(0, 10, 10, 0), 0);
        due.is("bound of 0, most", x.bound(0, 10, 10, 1), 0);
        x.set(2, 99);
        due.is("bound at 0, 0", x.bound(0, 0, 0, 0), 0);
    }

    private void mostAtMost() {
        due.about("promise 19, no more than VALUE and that (9999 at most)");
        RainCans x = Plots.at(0, 0);
        x.miss(0, 0, 9);
        x.raw(0, 0, 999);
        x.set(2, 1);
        int[][] most = {{8, 9998}, {9, 9999}, {10, 9999}, {20, 9999}};
        for (int[] m : most) {
            due.is("bound " + m[0] + " FAR", x.bound(0, m[0], 0, 1), m[1]);
        }
        due.is("its least", x.bound(0, 20, 20, 0), 9950);
    }

    private void boundsOfAll() {
        due.about("promise 19, no less than each CAN's, no more than each one's");
        RainCans x = Plots.at(0, 0, 2, 0, 4, 0, 6, 0, 8, 0, 10, 0);
        int[] readings = {50, 40, 45, 30, 20, 60};
        for (int can = 0; can < 6; can++) {
            x.raw(can, 9, readings[can]);
        }
        x.set(2, 10);
        // at 7, 0: 50-70, 40-50, 45-30, 30-10, 20-10, 60-30 and 120, 90, 75, 40, 30, 90
        due.is("bound at 7, 0, least: by the sixth", x.bound(9, 7, 0, 0), 30);
        due.is("bound at 7, 0, most: by the fifth", x.bound(9, 7, 0, 1), 30);
        // at 0, 2: 30, 0, .. and 70, 80, 105, 110, 120, 180
        due.is("bound at 0, 2, least: by the first", x.bound(9, 0, 2, 0), 30);
        due.is("bound at 0, 2, most: by the first", x.bound(9, 0, 2, 1), 70);
        x.radar(9, 0, 3, 45, 50);
        due.is("bound at 0, 2, least: by a RADAR", x.bound(9, 0, 2, 0), 35);
        due.is("bound at 0, 2, most: by a RADAR", x.bound(9, 0, 2, 1), 60);
    }

    private void radarEnds() {
        due.about("promise 19, RADARS: likewise by its ends");
        RainCans x = new RainCans();
        x.radar(4, 10, 10, 12, 999);
        int[][] at = {{10, 12, 999}, {11, 7, 1004}, {12, 2, 1009}, {13, 0, 1014}, {20, 0, 1049}};
        for (int[] b : at) {
            due.is("bound at " + b[0] + ", 10, least", x.bound(4, b[0], 10, 0), b[1]);
            due.is("bound at " + b[0] + ", 10, most", x.bound(4, b[0], 10, 1), b[2]);
        }
        x.radar(4, 10, 10, 20, 40);
        due.is("two at one place, least", x.bound(4, 10, 10, 0), 20);
        due.is("two at one place, most", x.bound(4, 10, 10, 1), 40);
    }

    private void boundsOfValues() {
        due.about("promise 19, each CAN's VALUE");
        RainCans x = Plots.at(5, 5, 20, 20);
        x.raw(0, 3, 40);
        x.miss(0, 0, 5);
        due.is("bound by MISS", x.bound(3, 5, 5, 0), 80);
        Plots.note(x, 0, "x3");
        due.is("bound, when the DAY does not count", x.bound(3, 5, 5, 1), 9999);
        Plots.note(x, 0, "s3");
        due.is("bound of a SUM, its last DAY", x.bound(3, 5, 5, 0), 80);
        due.is("bound of a SUM, its first DAY", x.bound(2, 5, 5, 1), 0);
        x.raw(0, 3, -1);
        due.is("bound, when nothing is READ", x.bound(2, 5, 5, 1), 9999);
    }

    private void boundsOfTheDay() {
        due.about("promise 19, BOUNDS at a place on a DAY");
        RainCans x = Plots.at(5, 5);
        x.raw(0, 0, 11);
        x.raw(0, 27, 22);
        x.radar(1, 5, 5, 33, 33);
        int[] want = {11, 33, 9999, 22};
        int[] days = {0, 1, 2, 27};
        for (int n = 0; n < 4; n++) {
            due.is("bound on DAY " + days[n], x.bound(days[n], 5, 5, 1), want[n]);
        }
    }

    private void clash() {
        due.about("promise 19, CLASH: the least is above the most");
        RainCans x = Plots.at(0, 0, 4, 0);
        x.raw(0, 0, 10);
        x.raw(1, 0, 30);
        // 5 times 4 FAR is 20: just so
        due.is("bound at CAN 0, least as the most", x.bound(0, 0, 0, 0), 10);
        due.is("bound at CAN 0, most", x.bound(0, 0, 0, 1), 10);
        due.is("bound at 2, 0, least", x.bound(0, 2, 0, 0), 20);
        due.is("bound at 2, 0, most", x.bound(0, 2, 0, 1), 20);
        x.raw(1, 0, 31);
        due.is("bound at CAN 0: CLASH by 1", x.bound(0, 0, 0, 0), -5);
        due.is("bound at CAN 0: CLASH by 1, most", x.bound(0, 0, 0, 1), -5);
        due.is("bound at CAN 1", x.bound(0, 4, 0, 0), -5);
        due.is("bound on another DAY", x.bound(1, 0, 0, 0), 0);
        due.is("bound at 2, 1: farther from both", x.bound(0, 2, 1, 0), 16);
        due.is("bound at 2, 1, most", x.bound(0, 2, 1, 1), 25);
    }

    private void ends() {
        due.about("promises 19 and 20, the least (end = 0), the most (1)");
        RainCans x = Plots.at(3, 3);
        x.raw(0, 5, 100);
        for (int end = -2; end <= 3; end++) {
            int want = end == 0 ? 95 : end == 1 ? 105 : -2;
            due.is("bound, end " + end, x.bound(5, 3, 4, end), want);
            due.is("over, end " + end, x.over(5, 3, 3, 4, 4, end), want);
        }
        for (int v = -2; v <= 22; v++) {
            boolean place = v >= 0 && v <= 20;
            due.is("bound at " + v + ", 3", x.bound(5, v, 3, 1), place ? 100 + 5 * Math.abs(v - 3) : -2);
            due.is("bound at 3, " + v, x.bound(5, 3, v, 1), place ? 100 + 5 * Math.abs(v - 3) : -2);
        }
    }

    /** What over, flow and place answer to a LAND. */
    private void land(boolean taken, int... l) {
        String told = l[0] + ", " + l[1] + ", " + l[2] + ", " + l[3];
        RainCans x = new RainCans();
        int places = (l[1] - l[0] + 1) * (l[3] - l[2] + 1);
        due.is("over(0, " + told + ", 1)", x.over(0, l[0], l[1], l[2], l[3], 1), taken ? 9999 * places : -2);
        due.is("flow(0, " + told + ", 0, 0)", x.flow(0, l[0], l[1], l[2], l[3], 0, 0), taken ? 0 : -1000000002);
        int answer = x.place(l[0], l[1], l[2], l[3]);
        due.holds("place(" + told + ") answered " + answer, taken ? answer >= 0 : answer == -2);
    }

    private void landEnds() {
        due.about("promises 20, 21, 23, LAND: x from one to another, y likewise (0 to 20); also it does not rise");
        land(true, 0, 20, 0, 20);
        land(true, 0, 0, 0, 20);
        land(true, 20, 20, 20, 20);
        land(true, 0, 1, 19, 20);
        land(false, -1, 20, 0, 20);
        land(false, 0, 21, 0, 20);
        land(false, 0, 20, -1, 20);
        land(false, 0, 20, 0, 21);
        land(false, 5, 4, 0, 20);
        land(false, 0, 20, 5, 4);
        land(false, 20, 0, 20, 0);
        land(false, -1, -1, 0, 0);
        land(false, 21, 21, 0, 0);
        land(false, 0, 0, 21, 21);
        land(false, 0, 0, -1, -1);
        land(false, MIN, MAX, 0, 0);
        land(false, 0, 0, MIN, MAX);
        land(false, MAX, MIN, MAX, MIN);
    }

    private void landOfOnePlace() {
        due.about("promise 20, a LAND of one place");
        RainCans x = Plots.at(7, 8);
        x.raw(0, 2, 60);
        for (int at = 0; at <= 20; at++) {
            for (int end = 0; end < 2; end++) {
                due.is("over " + at + ", 8 alone", x.over(2, at, at, 8, 8, end), x.bound(2, at, 8, end));
                due.is("over 7, " + at + " alone", x.over(2, 7, 7, at, at, end), x.bound(2, 7, at, end));
            }
        }
    }

    private void landAllTogether() {
        due.about("promise 20, OVER it: the least and the most of all places together");
        RainCans x = Plots.at(0, 0);
        x.raw(0, 2, 30);
        // 30, 25, 20, 15, 10, 5, 0, 0 ..
        due.is("over a row of x, least", x.over(2, 0, 20, 0, 0, 0), 105);
        due.is("over a row of y, least", x.over(2, 0, 0, 0, 20, 0), 105);
        due.is("over a row of x, most", x.over(2, 0, 20, 0, 0, 1), 21 * 30 + 5 * 210);
        due.is("over three by two, least: 30, 25, 20 and 25, 20, 15", x.over(2, 0, 2, 0, 1, 0), 135);
        due.is("over two by three, least", x.over(2, 0, 1, 0, 2, 0), 135);
        due.is("over x 1 to 2 and y 3 to 4: 10, 5 and 5, 0", x.over(2, 1, 2, 3, 4, 0), 20);
        due.is("over all of nothing, most", x.over(3, 0, 20, 0, 20, 1), 4409559);
        due.is("over all of nothing, least", x.over(3, 0, 20, 0, 20, 0), 0);
    }

    private void clashSomewhere() {
        due.about("promise 20, NO: CLASH somewhere");
        RainCans x = Plots.at(0, 0);
        x.raw(0, 2, 0);
        x.radar(2, 0, 1, 6, 9);
        // at 0, 0 and 0, 1 the RADAR asks for more than CAN 0 lets be
        due.is("bound at 0, 0", x.bound(2, 0, 0, 0), -5);
        due.is("bound at 0, 1", x.bound(2, 0, 1, 0), -5);
        due.is("bound at 1, 0: 0 to 5", x.bound(2, 1, 0, 1), 5);
        due.is("over all", x.over(2, 0, 20, 0, 20, 0), -5);
        due.is("over 0, 0 alone", x.over(2, 0, 0, 0, 0, 1), -5);
        due.is("over the last of a LAND", x.over(2, 0, 0, 1, 1, 1), -5);
        due.is("over what is beside", x.over(2, 1, 1, 0, 0, 1), 5);
        due.is("over another DAY", x.over(3, 0, 0, 0, 1, 1), 2 * 9999);
        due.is("flow over all", x.flow(2, 0, 20, 0, 20, 0, 0), -1000000005);
    }

    private void flowEnds() {
        due.about("promise 21, FLOW (0 to 9999999) of a part (0 to 100 of a hundred)");
        RainCans x = new RainCans();
        int[] flows = {-1, 0, 1, 4409559, 4409560, 9999999, 10000000, MIN, MAX};
        int[] answers = {-1000000002, 0, 0, 0, 1, 9999999 - 4409559, -1000000002, -1000000002, -1000000002};
        for (int n = 0; n < flows.length; n++) {
            due.is("flow " + flows[n], x.flow(0, 0, 20, 0, 20, 50, flows[n]), answers[n]);
        }
        for (int part : new int[] {-1, 0, 1, 99, 100, 101, MIN, MAX}) {
            boolean taken = part >= 0 && part <= 100;
            due.is("flow of part " + part, x.flow(0, 0, 20, 0, 20, part, 5), taken ? 0 : -1000000002);
        }
    }

    private void held() {
        due.about("promise 21, HELD; else by how much it lies above that most, or (below 0) under that quotient");
        RainCans x = Plots.at(3, 3);
        x.raw(0, 4, 100);
        // 100, 95, 95, 90 and 100, 105, 105, 110
        int[][] flows = {{379, -1}, {380, 0}, {381, 0}, {419, 0}, {420, 0}, {421, 1}, {0, -380}, {1000, 580}};
        for (int[] f : flows) {
            due.is("flow " + f[0], x.flow(4, 3, 4, 3, 4, 0, f[0]), f[1]);
        }
    }

    private void heldByPart() {
        due.about("promise 21, the least times (100 less that part) by 100; the most of OVER itself");
        RainCans x = Plots.at(3, 3);
        x.raw(0, 4, 100);
        int[][] flows = {{50, 189, -1}, {50, 190, 0}, {50, 420, 0}, {50, 421, 1}, {100, 0, 0}, {100, 421, 1}, {99, 2, -1},
            {99, 3, 0}, {1, 375, -1}, {1, 376, 0}, {1, 420, 0}};
        for (int[] f : flows) {
            due.is("flow " + f[1] + " of part " + f[0], x.flow(4, 3, 4, 3, 4, f[0], f[1]), f[2]);
        }
    }

    private void flowQuotientIsCut() {
        due.about("promise 21, the quotient is cut");
        RainCans x = Plots.at(3, 3);
        x.raw(0, 4, 99);
        // 99 times 49 by 100 is 48.51
        due.is("flow 48", x.flow(4, 3, 3, 3, 3, 51, 48), 0);
        due.is("flow 47", x.flow(4, 3, 3, 3, 3, 51, 47), -1);
        x.raw(0, 4, 1);
        due.is("flow 0 of 1 and part 1", x.flow(4, 3, 3, 3, 3, 1, 0), 0);
        due.is("flow 0 of 1 and part 0", x.flow(4, 3, 3, 3, 3, 0, 0), -1);
        x.miss(0, 0, 9);
        x.raw(0, 4, 999);
        x.set(2, 0);
        due.is("flow 0 of the greatest OVER", x.flow(4, 0, 20, 0, 20, 0, 0), -4405590);
        due.is("flow of it, part 1: 4361534.1", x.flow(4, 0, 20, 0, 20, 1, 0), -4361534);
    }

    private void flowClash() {
        due.about("promise 21, NO, likewise");
        RainCans x = Plots.at(0, 0, 0, 0);
        x.raw(0, 2, 5);
        x.raw(1, 2, 6);
        due.is("flow, CLASH", x.flow(2, 0, 0, 0, 0, 0, 5), -1000000005);
        due.is("flow, CLASH of part 100", x.flow(2, 0, 0, 0, 0, 100, 0), -1000000005);
        due.is("flow on DAY 28, ahead of it", x.flow(28, 0, 0, 0, 0, 0, 5), -1000000001);
        due.is("flow of part 101, ahead of it", x.flow(2, 0, 0, 0, 0, 101, 5), -1000000002);
        due.is("flow beside it: 0 to 10 and 1 to 11", x.flow(2, 0, 0, 1, 1, 0, 5), 0);
    }

    private void filled() {
        due.about("promise 22, the half of BOUNDS together; ERROR: the half of their difference, and 1");
        RainCans x = Plots.at(0, 0);
        due.is("fill of 0 to 9999", x.fill(0, 27, 0), 4999);
        due.is("its ERROR", x.fill(0, 27, 1), 5000);
        int[][] spans = {{0, 0, 0, 1}, {0, 1, 0, 1}, {1, 2, 1, 1}, {0, 2, 1, 2}, {3, 8, 5, 3}, {999, 999, 999, 1}, {0, 999, 499, 500}};
        for (int[] s : spans) {
            x.blind();
            x.radar(0, 0, 0, s[0], s[1]);
            due.is("fill of " + s[0] + " to " + s[1], x.fill(0, 0, 0), s[2]);
            due.is("its ERROR", x.fill(0, 0, 1), s[3]);
            due.is("fill, what 2", x.fill(0, 0, 2), -2);
            due.is("fill, what -1", x.fill(0, 0, -1), -2);
        }
    }

    private void fillState() {
        due.about("promise 22, STATE: there is a VALUE");
        RainCans x = Plots.at(0, 0, 3, 0);
        x.raw(0, 5, 0);
        due.is("fill(0, 5, 0) of VALUE 0", x.fill(0, 5, 0), -3);
        due.is("fill(1, 5, 0): half of 0 and 15", x.fill(1, 5, 0), 7);
        due.is("fill(0, 4, 0)", x.fill(0, 4, 0), 4999);
        x.note(0);
        Plots.note(x, 0, "s5");
        due.is("fill(0, 4, 0): a DAY of a SUM has a VALUE", x.fill(0, 4, 0), -3);
        due.is("fill(0, 4, 1)", x.fill(0, 4, 1), -3);
        Plots.note(x, 0, "x5");
        due.is("fill(0, 5, 0): RAW alone is no VALUE", x.fill(0, 5, 0), 4999);
        due.is("fill(0, 5, 1)", x.fill(0, 5, 1), 5000);
        due.is("fill(2, 5, 0)", x.fill(2, 5, 0), -1);
        due.is("fill(0, 28, 0)", x.fill(0, 28, 0), -1);
    }

    private void fillClash() {
        due.about("promise 22, NO: CLASH");
        RainCans x = Plots.at(0, 0, 20, 20, 20, 20);
        x.radar(0, 0, 0, 5, 6);
        x.radar(0, 0, 0, 6, 9);
        due.is("fill(0, 0, 0): 6 to 6", x.fill(0, 0, 0), 6);
        due.is("fill(0, 0, 1)", x.fill(0, 0, 1), 1);
        x.radar(0, 0, 0, 7, 9);
        due.is("fill(0, 0, 0): 7 to 6", x.fill(0, 0, 0), -5);
        due.is("fill(0, 0, 1)", x.fill(0, 0, 1), -5);
        due.is("fill(1, 0, 0): no CLASH at its own place, 0 to 206", x.fill(1, 0, 0), 103);
        due.is("fill(0, 1, 0): nor on another DAY", x.fill(0, 1, 0), 4999);
    }

    private void newOfNone() {
        due.about("promise 23, NEW without CANS");
        RainCans x = new RainCans();
        due.is("place of all", x.place(0, 20, 0, 20), 1010);
        for (int v = 0; v <= 20; v++) {
            due.is("place of " + v + ", 20 alone", x.place(v, v, 20, 20), 100 * v + 20);
            due.is("place of 0, " + v + " alone", x.place(0, 0, v, v), v);
        }
        due.is("told(0): none is made", x.told(0), 0);
    }

    private void newOfSeveral() {
        due.about("promise 23, of several the least x, then y");
        RainCans x = new RainCans();
        due.is("place of two by two", x.place(10, 11, 10, 11), 1010);
        due.is("place of two of x", x.place(19, 20, 5, 5), 1905);
        due.is("place of two of y", x.place(5, 5, 19, 20), 519);
        due.is("place of four of x", x.place(2, 5, 9, 9), 309);
        x.can(5, 5);
        // 6, 5 would serve as well
        due.is("place beside a CAN in the middle", x.place(4, 6, 5, 5), 405);
        due.is("place of a CAN's own place: none serves better, so the least of all", x.place(5, 5, 5, 5), 0);
    }

    private void newIsNeeded() {
        due.about("promise 23, one more CAN being there, over all places of a LAND the FARNESS to the nearest CAN is least");
        RainCans x = Plots.at(0, 0);
        due.is("place of 0 to 2: the last two are one apart", x.place(0, 2, 0, 0), 100);
        due.is("place of 0 to 3", x.place(0, 3, 0, 0), 200);
        due.is("place of 1 to 1", x.place(1, 1, 0, 0), 100);
        x.raw(0, 0, 5);
        due.is("place of 0 to 3: readings do not count", x.place(0, 3, 0, 0), 200);
        x.radar(0, 2, 0, 1, 2);
        due.is("place of 0 to 3: nor do RADARS", x.place(0, 3, 0, 0), 200);
        x.can(20, 20);
        due.is("place of the corner with a CAN", x.place(20, 20, 20, 20), 0);
        due.is("place of the other corner", x.place(20, 20, 0, 0), 2000);
    }

    private void newBesideSix() {
        due.about("promise 23, it is not FULL with six CANS");
        RainCans x = Plots.at(0, 0, 0, 0, 0, 0, 0, 0, 0, 0, 20, 0);
        due.is("place of a far corner", x.place(0, 0, 20, 20), 20);
        due.is("place of the sixth's own place", x.place(20, 20, 0, 0), 0);
        due.is("told(0)", x.told(0), 6);
    }
}
