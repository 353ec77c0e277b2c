/** Parts 2 and 3 of the terms, promises 13 to 16: one test for each sentence that names an edge. */
public final class EdgesWeeksTest {
    private static final int NONE = -6;

    private final Due due = new Due();

    public static void main(String[] args) {
        EdgesWeeksTest test = new EdgesWeeksTest();
        test.settings();
        test.reach();
        test.ownNeighbour();
        test.expectedOfNone();
        test.expectedMean();
        test.expectedOfPlainAlone();
        test.partedByExpected();
        test.partedCut();
        test.allToTheLast();
        test.sumOfZeroAndOfNothing();
        test.lastDaysMiss();
        test.sumOfAllDays();
        test.partedGreat();
        test.weeksOfAllDays();
        test.nothingIsZero();
        test.changedAbout();
        test.oneAhead();
        test.heldTogether();
        test.threeBehind();
        test.theyHeldZero();
        test.priceEnds();
        test.theFewest();
        test.theFirstByKinds();
        test.twoAtMost();
        test.oneBehindTheOther();
        test.weeksAskedInTurn();
        test.greatestMisfit();
        test.eightDifferences();
        test.fourInEach();
        test.theFirstSuch();
        test.quotientsAreCut();
        test.differencesOfValues();
        test.stepIsCut();
        test.seeds();
        test.asGreatOrGreater();
        test.asItIsLeft();
        test.due.end();
    }

    private void settings() {
        due.about("promise 13, REACH (1 to 40; 10 at first), PRICE (0 to 999; 50), SLOPE (0 to 99; 5), DOUBT (0 to 9; 1)");
        int[] first = {10, 50, 5, 1};
        int[] least = {1, 0, 0, 0};
        int[] most = {40, 999, 99, 9};
        for (int which = 0; which < 4; which++) {
            RainCans x = new RainCans();
            due.is("told(" + (4 + which) + ") at first", x.told(4 + which), first[which]);
            due.is("set(" + which + ", one below)", x.set(which, least[which] - 1), -2);
            due.is("set(" + which + ", the least): which it was", x.set(which, least[which]), first[which]);
            due.is("set(" + which + ", one above)", x.set(which, most[which] + 1), -2);
            due.is("set(" + which + ", the most)", x.set(which, most[which]), least[which]);
            due.is("set(" + which + ", MIN)", x.set(which, Integer.MIN_VALUE), -2);
            due.is("set(" + which + ", MAX)", x.set(which, Integer.MAX_VALUE), -2);
            for (int other = 0; other < 4; other++) {
                due.is("told(" + (4 + other) + ")", x.told(4 + other), other == which ? most[which] : first[other]);
            }
        }
        due.is("set(4, 1)", new RainCans().set(4, 1), -2);
        due.is("set(-1, 1)", new RainCans().set(-1, 1), -2);
    }

    private void reach() {
        due.about("NEIGHBOURS: all others no FARTHER than REACH");
        for (int far = 0; far <= 40; far++) {
            RainCans x = Plots.at(0, 0, Math.min(20, far), far - Math.min(20, far));
            x.raw(1, 0, 30);
            for (int reach = Math.max(1, far - 1); reach <= Math.min(40, far + 1); reach++) {
                x.set(0, reach);
                due.is(far + " FAR by REACH " + reach, x.of(0, 0, 4), far <= reach ? 30 : NONE);
            }
        }
        RainCans x = Plots.at(4, 4, 14, 4, 4, 15);
        x.raw(1, 0, 30);
        x.raw(2, 0, 70);
        due.is("by REACH 10 at first: the one, not the other", x.of(0, 0, 4), 30);
        x.set(0, 11);
        due.is("by REACH 11: both", x.of(0, 0, 4), 50);
    }

    private void ownNeighbour() {
        due.about("NEIGHBOURS of a CAN: all others");
        RainCans x = Plots.at(4, 4);
        x.raw(0, 0, 30);
        due.is("of(0, 0, 4) of one alone", x.of(0, 0, 4), NONE);
        x.can(4, 4);
        due.is("of(0, 0, 4) beside one without a reading", x.of(0, 0, 4), NONE);
        due.is("of(1, 0, 4) at the same place", x.of(1, 0, 4), 30);
        x.raw(1, 0, 90);
        due.is("of(0, 0, 4)", x.of(0, 0, 4), 90);
        due.is("of(1, 0, 4)", x.of(1, 0, 4), 30);
    }

    private void expectedOfNone() {
        due.about("EXPECTED: nothing, if there is none");
        RainCans x = Plots.at(0, 0, 1, 0, 2, 0);
        x.raw(0, 0, 9);
        due.is("of(0, 0, 4)", x.of(0, 0, 4), NONE);
        x.raw(1, 0, 0);
        due.is("of(0, 0, 4): 0 is not nothing", x.of(0, 0, 4), 0);
        x.raw(1, 0, -1);
        due.is("of(0, 0, 4)", x.of(0, 0, 4), NONE);
        x.raw(2, 1, 5);
        due.is("of(0, 0, 4): another DAY does not count", x.of(0, 0, 4), NONE);
        due.is("of(0, 27, 4)", x.of(0, 27, 4), NONE);
        x.raw(2, 27, 5);
        due.is("of(0, 27, 4)", x.of(0, 27, 4), 5);
    }

    private void expectedMean() {
        due.about("EXPECTED on a DAY: the mean of what is PLAIN, cut");
        RainCans x = Plots.at(5, 5, 5, 6, 6, 5, 4, 5, 5, 4, 6, 6);
        int[] readings = {3, 0, 1, 2, 4};
        int[] means = {3, 1, 1, 1, 2};
        for (int n = 0; n < 5; n++) {
            x.raw(n + 1, 0, readings[n]);
            due.is("of(0, 0, 4) by " + (n + 1), x.of(0, 0, 4), means[n]);
        }
        x.raw(5, 0, 3);
        due.is("of(0, 0, 4): 9 by 5", x.of(0, 0, 4), 1);
        for (int can = 0; can < 6; can++) {
            x.raw(can, 27, 999);
            x.miss(can, 0, 9);
        }
        due.is("of(0, 27, 4): the greatest", x.of(0, 27, 4), 9990);
        due.is("of(5, 27, 4)", x.of(5, 27, 4), 9990);
    }

    private void expectedOfPlainAlone() {
        due.about("EXPECTED: of what is PLAIN of these");
        RainCans x = Plots.at(5, 5, 5, 6, 5, 7);
        Plots.read(x, 1, 0, 10, 20, 30, 40);
        Plots.read(x, 2, 0, 2, 4, 6, 8);
        Plots.note(x, 1, "s1-2");
        due.is("of(1, 1, 5): a VALUE", x.of(1, 1, 5), 12);
        int[] expected = {6, 4, 6, 24};
        for (int day = 0; day < 4; day++) {
            due.is("of(0, " + day + ", 4): but it is not PLAIN on DAYS of an s", x.of(0, day, 4), expected[day]);
        }
        Plots.note(x, 1, "x0;l3");
        int[] late = {2, 12, 23, 8};
        for (int day = 0; day < 4; day++) {
            due.is("of(0, " + day + ", 4) by x and l", x.of(0, day, 4), late[day]);
        }
    }

    /** CAN 0 holds a SUM over the first DAYS beside what CAN 1 leads one to expect. */
    private static RainCans sum(int sum, int... expected) {
        RainCans x = Plots.at(0, 0, 0, 1);
        Plots.read(x, 1, 0, expected);
        x.raw(0, expected.length - 1, sum);
        Plots.note(x, 0, "s0-" + (expected.length - 1));
        return x;
    }

    private void parts(String what, RainCans x, int... values) {
        for (int day = 0; day < values.length; day++) {
            due.is(what + ": of(0, " + day + ", 5)", x.of(0, day, 5), values[day]);
        }
    }

    private void partedByExpected() {
        due.about("VALUE: to each DAY but the last that times EXPECTED by EXPECTED together (nothing counts 0)");
        parts("as EXPECTED", sum(60, 10, 20, 30), 10, 20, 30);
        parts("twice as EXPECTED", sum(120, 10, 20, 30), 20, 40, 60);
        parts("nothing counts 0", sum(60, 10, -1, 30), 15, 0, 45);
        parts("nothing on the last DAY", sum(60, 10, 20, -1), 20, 40, 0);
        parts("nothing on the first DAY", sum(60, -1, 20, 10), 0, 40, 20);
        parts("the last DAY alone", sum(60, 0, -1, 7), 0, 0, 60);
        parts("the first DAY alone", sum(60, 7, -1, 0), 60, 0, 0);
        parts("two DAYS", sum(60, 1, 2), 20, 40);
    }

    private void partedCut() {
        due.about("VALUE: to the last what is left");
        parts("10 by three", sum(10, 5, 5, 5), 3, 3, 4);
        parts("1 by three", sum(1, 5, 5, 5), 0, 0, 1);
        parts("2 by 1, 2", sum(2, 1, 2), 0, 2);
        parts("7 by 1, 1, 1, 1", sum(7, 1, 1, 1, 1), 1, 1, 1, 4);
    }

    private void allToTheLast() {
        due.about("VALUE: all to the last, if these are 0");
        parts("EXPECTED is 0", sum(60, 0, 0, 0), 0, 0, 60);
        parts("nothing is EXPECTED", sum(60, -1, -1, -1), 0, 0, 60);
        parts("one of each", sum(60, -1, 0), 0, 60);
    }

    private void sumOfZeroAndOfNothing() {
        due.about("VALUE: on DAYS of an s whose last one is READ");
        parts("a SUM of 0", sum(0, 5, 5, 5), 0, 0, 0);
        RainCans x = sum(60, 10, 20, 30);
        x.raw(0, 0, 7);
        x.raw(0, 2, -1);
        parts("the last DAY is not READ", x, NONE, NONE, NONE);
        due.is("of(0, 0, 1)", x.of(0, 0, 1), 7);
        x.fix(0, 2, 6);
        parts("it is, by a FIX", x, 1, 2, 3);
        x = sum(60, 10, 20, 30);
        x.raw(0, 3, 600);
        Plots.note(x, 0, "s0-2;l3");
        parts("it is, by the DAY behind", x, 100, 200, 300, NONE);
        x.raw(0, 3, -1);
        parts("it is not, by the DAY behind", x, NONE, NONE, NONE, NONE);
    }

    private void lastDaysMiss() {
        due.about("VALUE: SUM times 10 by 10 less MISS (the last DAY's)");
        RainCans x = sum(50, 10, 10);
        x.miss(0, 2, 9);
        x.wind(0, 2);
        parts("the first DAY's WIND does not count", x, 25, 25);
        x.miss(0, 0, 3);
        // 500 by 7 is 71
        parts("the last DAY's does, cut", x, 35, 36);
        x.wind(1, 2);
        parts("the greatest MISS", x, 250, 250);
    }

    private void sumOfAllDays() {
        due.about("VALUE of an s from DAY 0 to DAY 27");
        RainCans x = Plots.at(0, 0, 0, 1);
        for (int day = 0; day < 28; day++) {
            x.raw(1, day, 1);
        }
        x.raw(0, 27, 28);
        due.is("note", Plots.note(x, 0, "s0-27"), 1);
        for (int day = 0; day < 28; day++) {
            due.is("of(0, " + day + ", 5)", x.of(0, day, 5), 1);
        }
        x.raw(0, 27, 27);
        due.is("of(0, 0, 5)", x.of(0, 0, 5), 0);
        due.is("of(0, 26, 5)", x.of(0, 26, 5), 0);
        due.is("of(0, 27, 5)", x.of(0, 27, 5), 27);
        x.raw(0, 27, 83);
        due.is("of(0, 26, 5)", x.of(0, 26, 5), 2);
        due.is("of(0, 27, 5)", x.of(0, 27, 5), 29);
    }

    private void partedGreat() {
        due.about("VALUE of the greatest SUM by the greatest EXPECTED");
        RainCans x = sum(999, 999, 999, 999);
        x.miss(0, 0, 9);
        x.miss(1, 0, 9);
        parts("9990 by three", x, 3330, 3330, 3330);
        x.raw(1, 1, 0);
        x.raw(1, 2, 0);
        parts("9990 to the first", x, 9990, 0, 0);
    }

    private void weeksOfAllDays() {
        due.about("promise 14, WEEK from a DAY on: 7 DAYS (the first no later than 21)");
        RainCans x = Plots.at(0, 0);
        x.set(1, 999);
        for (int day = 0; day < 28; day++) {
            x.raw(0, day, day + 1);
        }
        for (int day = 0; day <= 21; day++) {
            due.is("week(0, " + day + ", 0)", x.week(0, day, 0), 7 * (day + 1) + 21);
        }
        for (int day = 22; day <= 29; day++) {
            due.is("week(0, " + day + ", 0)", x.week(0, day, 0), -1);
        }
        due.is("week(0, -1, 0)", x.week(0, -1, 0), -1);
        for (int what = -1; what <= 4; what++) {
            int[] want = {-2, 49 + 119, 0, NONE, NONE, -2};
            due.is("week(0, 20, " + what + ")", x.week(0, 20, what), want[what + 1]);
        }
    }

    /** CAN 0's week from DAY 0 on beside what CAN 1 leads one to expect. */
    private static RainCans week(int price, int[] row, int... expected) {
        RainCans x = Plots.at(0, 0, 0, 1);
        x.set(1, price);
        Plots.read(x, 0, 0, row);
        Plots.read(x, 1, 0, expected);
        return x;
    }

    private static int[] row(int... row) {
        return row;
    }

    private void explained(String what, RainCans x, int... want) {
        for (int k = 0; k < 4; k++) {
            due.is(what + ": week(0, 0, " + k + ")", x.week(0, 0, k), want[k]);
        }
    }

    private void nothingIsZero() {
        due.about("promise 14, 0 for nothing");
        explained("of VALUES", week(999, row(-1, 5, -1, 0, -1, -1, -1), 1, 2, 0, 0, 3, 0, 4), 11, 0, NONE, NONE);
        explained("of EXPECTED", week(999, row(1, 2, 0, 0, 3, 0, 4), -1, 5, -1, 0, -1, -1, -1), 11, 0, NONE, NONE);
        explained("of both", week(999, row(-1, -1, -1, -1, -1, -1, -1), -1, -1, -1, -1, -1, -1, -1), 0, 0, NONE, NONE);
        explained("a SUM over DAYS without VALUE", week(1, row(-1, -1, 6, 0, 0, 0, 0), 1, 2, 3, 0, 0, 0, 0), 1, 1, 202, NONE);
    }

    private static int[] expected() {
        return new int[] {100, 300, 50, 400, 20, 500, 10};
    }

    private void changedAbout() {
        due.about("promise 14, kind 0, i: places i and i and 1 are changed about");
        for (int i = 0; i <= 5; i++) {
            int[] e = expected();
            int[] r = expected();
            r[i] = e[i + 1];
            r[i + 1] = e[i];
            explained("i is " + i, week(1, r, e), 1, 1, 10 * i, NONE);
        }
    }

    private void oneAhead() {
        due.about("promise 14, kind 1, i, j: what is in places i to j (i from 1 on) goes one place ahead each");
        for (int i = 1; i <= 6; i++) {
            for (int j = i; j <= 6; j++) {
                int[] e = expected();
                e[j] = 0;
                int[] r = e.clone();
                r[i - 1] = 7;
                for (int k = i; k <= j; k++) {
                    r[k] = e[k - 1];
                }
                explained("i is " + i + ", j is " + j, week(1, r, e), 1, 1, 100 + 10 * i + j, NONE);
            }
        }
    }

    private void heldTogether() {
        due.about("promise 14, kind 2, i, j (one or two behind i): place j holds all from i to j");
        for (int i = 0; i <= 5; i++) {
            for (int j = i + 1; j <= Math.min(6, i + 2); j++) {
                int[] e = expected();
                int[] r = expected();
                for (int k = i; k < j; k++) {
                    r[j] += r[k];
                    r[k] = 0;
                }
                explained("i is " + i + ", j is " + j, week(1, r, e), 1, 1, 200 + 10 * i + j, NONE);
            }
        }
    }

    private void threeBehind() {
        due.about("promise 14, kind 2: j is not three behind i");
        // 40 is parted to 13, 13, 14, and 13 to 6, 7
        explained("four held together", week(1, row(0, 0, 0, 40, 0, 0, 0), 10, 10, 10, 10, 0, 0, 0), 16, 2, 213, 201);
    }

    private void theyHeldZero() {
        due.about("promise 14, kind 2: they held 0, else it can not be");
        explained("the first held 1", week(1, row(1, 19, 0, 0, 0, 0, 0), 10, 10, 0, 0, 0, 0, 0), 18, 0, NONE, NONE);
        explained("it held 0", week(1, row(0, 19, 0, 0, 0, 0, 0), 10, 10, 0, 0, 0, 0, 0), 2, 1, 201, NONE);
        explained("it held nothing", week(1, row(-1, 19, 0, 0, 0, 0, 0), 10, 10, 0, 0, 0, 0, 0), 2, 1, 201, NONE);
        explained("both of two held 0", week(5, row(0, 0, 60, 0, 0, 0, 0), 20, 20, 20, 0, 0, 0, 0), 5, 1, 202, NONE);
        // changed about with the first, 1 is out of the way: 59 is parted to 29, 30
        explained("the second held 1", week(5, row(0, 1, 59, 0, 0, 0, 0), 20, 20, 20, 0, 0, 0, 0), 48, 2, 0, 212);
    }

    private void priceEnds() {
        due.about("promise 14, PRICE (0 to 999) for each");
        int[] r = {0, 999, 0, 0, 0, 0, 0};
        int[] e = {999, 0, 0, 0, 0, 0, 0};
        explained("PRICE 999", week(999, r, e), 999, 1, 0, NONE);
        explained("PRICE 0", week(0, r, e), 0, 1, 0, NONE);
        explained("PRICE 0, two", week(0, row(0, 9, 0, 0, 0, 8, 0), 9, 0, 0, 0, 0, 0, 8), 0, 2, 0, 50);
        explained("PRICE 999, two", week(999, row(0, 999, 0, 0, 0, 999, 0), 999, 0, 0, 0, 0, 0, 999), 1998, 2, 0, 50);
    }

    private void theFewest() {
        due.about("promise 14, of several the fewest");
        int[] r = {0, 10, 0, 0, 0, 0, 0};
        int[] e = {10, 0, 0, 0, 0, 0, 0};
        explained("none as good as one", week(20, r, e), 20, 0, NONE, NONE);
        explained("one is better by 1", week(19, r, e), 19, 1, 0, NONE);
        int[] two = {0, 50, 0, 0, 0, 10, 0};
        int[] both = {50, 0, 0, 0, 0, 0, 10};
        explained("one as good as two", week(20, two, both), 40, 1, 0, NONE);
        explained("two are better by 1", week(19, two, both), 38, 2, 0, 50);
        explained("PRICE 0, none to mend", week(0, e, e), 0, 0, NONE, NONE);
    }

    private void theFirstByKinds() {
        due.about("promise 14, then the first by kinds, i, j (the first MENDING's, then the second one's)");
        // places 0 and 1 changed about do as well as 1, 2, as one ahead, as a SUM
        explained("by i", week(5, row(0, 10, 0, 0, 0, 0, 0), 10, 0, 10, 0, 0, 0, 0), 15, 1, 0, NONE);
        explained("by kinds", week(5, row(0, 0, 0, 0, 0, 0, 10), 0, 0, 0, 0, 0, 10, 0), 5, 1, 50, NONE);
        explained("by j", week(5, row(7, 50, 0, 0, 0, 0, 0), 50, 0, 0, 0, 0, 0, 0), 5, 1, 111, NONE);
        explained("the first one's, then the second's", week(5, row(10, 10, 0, 0, 0, 0, 0), 0, 0, 0, 0, 0, 0, 0), 10, 2, 111, 111);
        explained("the lower one first", week(1, row(1, 9, 0, 0, 2, 8, 0), 9, 1, 0, 0, 8, 2, 0), 2, 2, 0, 40);
    }

    private void twoAtMost() {
        due.about("promise 14, EXPLAINED: of none, one or two MENDINGS");
        explained("three changes would do", week(1, row(20, 10, 40, 30, 60, 50, 0), 10, 20, 30, 40, 50, 60, 0), 22, 2, 0, 20);
    }

    private void oneBehindTheOther() {
        due.about("promise 14, two MENDINGS (one behind the other)");
        int[] e = {90, 20, 50, 0, 0, 0, 0};
        explained("1, 2 and then 0, 1", week(5, row(20, 50, 90, 0, 0, 0, 0), e), 10, 2, 10, 0);
        explained("0, 1 and then 1, 2", week(5, row(50, 90, 20, 0, 0, 0, 0), e), 10, 2, 0, 10);
        // held together on the third DAY, which was read a DAY late
        explained("changed about and then held together", week(5, row(0, 0, 0, 160, 0, 0, 0), e), 10, 2, 20, 202);
        // changed about, place 1 holds 0, and 30 is parted to 19, 11
        explained("out of the way and then held together", week(1, row(7, 30, 0, 0, 0, 0, 0), 10, 13, 7, 0, 0, 0, 0),
            15, 2, 10, 212);
    }

    private void weeksAskedInTurn() {
        due.about("promise 14, what one WEEK was told does not stay for the next");
        RainCans x = Plots.at(0, 0, 0, 1);
        x.set(1, 1);
        Plots.read(x, 0, 0, 0, 50, 0, 0, 0, 60, 0, 5, 5, 5, 5, 5, 5, 5);
        Plots.read(x, 1, 0, 50, 0, 0, 0, 0, 0, 60, 5, 5, 5, 5, 5, 5, 5);
        int[][] want = {{2, 2, 0, 50}, {0, 0, NONE, NONE}};
        for (int turn = 0; turn < 6; turn++) {
            for (int what = 0; what < 4; what++) {
                due.is("week(0, " + turn % 2 * 7 + ", " + what + ")", x.week(0, turn % 2 * 7, what), want[turn % 2][what]);
            }
        }
    }

    private void greatestMisfit() {
        due.about("promise 14, the greatest MISFIT");
        RainCans x = Plots.at(0, 0);
        x.miss(0, 0, 9);
        for (int day = 21; day < 28; day++) {
            x.raw(0, day, 999);
        }
        x.set(1, 999);
        due.is("week(0, 21, 0): two of seven are lost", x.week(0, 21, 0), 5 * 9990 + 2 * 999);
        due.is("week(0, 20, 0)", x.week(0, 20, 0), 4 * 9990 + 2 * 999);
        due.is("week(0, 14, 0)", x.week(0, 14, 0), 0);
    }

    /** DIFFERENCES of CAN 0 from DAY 0 on, EXPECTED 500. */
    private static RainCans differing(int... differences) {
        RainCans x = Plots.at(0, 0, 0, 1);
        for (int day = 0; day < differences.length; day++) {
            x.raw(0, day, 500 + differences[day]);
            x.raw(1, day, 500);
        }
        return x;
    }

    private static int[] steps(int low, int high, int from, int to) {
        int[] row = new int[28];
        for (int day = 0; day < 28; day++) {
            row[day] = day >= from && day < to ? high : low;
        }
        return row;
    }

    private void broken(String what, RainCans x, int day, int step) {
        due.is(what + ": breaks(0, 0)", x.breaks(0, 0), day);
        due.is(what + ": breaks(0, 1)", x.breaks(0, 1), step);
    }

    private void eightDifferences() {
        due.about("promises 15 and 16, NO: fewer than 8 DIFFERENCES");
        for (int count = 0; count <= 8; count++) {
            RainCans x = differing(new int[count]);
            boolean enough = count == 8;
            broken(count + " DIFFERENCES", x, enough ? 4 : -1000000005, enough ? 0 : -1000000005);
            due.is("chance(0, 0) of " + count, x.chance(0, 0), enough ? 99 : -5);
        }
        RainCans x = differing(new int[8]);
        x.fix(0, 3, -1);
        broken("a VALUE is gone", x, -1000000005, -1000000005);
        x.undo();
        broken("it is back", x, 4, 0);
        x.fix(1, 3, -1);
        broken("EXPECTED is gone", x, -1000000005, -1000000005);
        due.is("breaks(0, 2): OUTSIDE ahead of NO", x.breaks(0, 2), -1000000002);
        due.is("breaks(2, 2): UNKNOWN ahead of both", x.breaks(2, 2), -1000000001);
        due.is("breaks(0, -1)", x.breaks(0, -1), -1000000002);
        due.is("chance(0, 10000): OUTSIDE ahead of NO", x.chance(0, 10000), -2);
    }

    private void fourInEach() {
        due.about("promise 15, in two parts, 4 of them at least in each");
        broken("4 and 24", differing(steps(0, 24, 4, 28)), 4, 24);
        broken("24 and 4", differing(steps(0, 24, 24, 28)), 24, 24);
        broken("5 and 23", differing(steps(0, 24, 5, 28)), 5, 24);
        broken("23 and 5", differing(steps(0, 24, 23, 28)), 23, 24);
        // behind four the first mean is 6, the second one 24
        broken("3 and 25 can not be", differing(steps(0, 24, 3, 28)), 4, 18);
        broken("25 and 3 can not be", differing(steps(0, 24, 25, 28)), 24, 18);
        broken("8: 4 and 4 alone", differing(90, 90, 0, 0, 0, 0, 0, 0), 4, -45);
        broken("9: 4 and 5", differing(5, 5, 5, 5, 0, 0, 0, 0, 0), 4, -5);
        broken("9: 5 and 4", differing(5, 5, 5, 5, 5, 0, 0, 0, 0), 5, -5);
    }

    private void theFirstSuch() {
        due.about("promise 15, is greatest, the first such");
        broken("all the same", differing(new int[28]), 4, 0);
        // behind four and behind eight it is 240 by 240 by 32, between them it is less
        broken("two as great", differing(10, 10, 10, 10, 5, 5, 5, 5, 0, 0, 0, 0), 4, -7);
        broken("the second one greater by a little", differing(10, 10, 10, 10, 6, 6, 6, 6, 0, 0, 0, 0), 8, -8);
    }

    private void quotientsAreCut() {
        due.about("promise 15, the quotient is cut as all are");
        // behind five it is 20 by 20 by 25, behind six 20 by 20 by 24: 16 both
        broken("cut to the same number: the first", differing(8, -3, 1, 1, 1, 2, 0, 9, -3, 4), 5, 0);
    }

    private void differencesOfValues() {
        due.about("promise 15, DIFFERENCES on all DAYS with a VALUE and EXPECTED: VALUE less that");
        RainCans x = Plots.at(0, 0, 0, 1);
        Plots.read(x, 1, 0, 10, 10, 10, 10, -1, 10, 10, 10, 10);
        Plots.read(x, 0, 0, -1, -1, -1, 40, 900, 15, 15, 15, 15);
        due.is("five, without a SUM", x.breaks(0, 0), -1000000005);
        due.is("note", Plots.note(x, 0, "s0-3"), 1);
        broken("DAYS of an s have VALUES; DAY 4 has no EXPECTED", x, 5, 5);
        x.raw(1, 9, 900);
        broken("DAY 9 has no VALUE", x, 5, 5);
        due.is("breaks(1, 0): but the neighbour's SUM is not PLAIN", x.breaks(1, 0), -1000000005);
        x = Plots.at(0, 0, 0, 1);
        for (int n = 0; n < 8; n++) {
            x.raw(0, 20 + n, n < 4 ? 0 : 999);
            x.raw(1, 20 + n, n < 4 ? 999 : 0);
        }
        broken("on the last eight DAYS", x, 24, 1998);
    }

    private void stepIsCut() {
        due.about("promise 15, STEP: mean of the second part less mean of the first one (over one number: cut)");
        // means -2 and -1.25: each cut alone they would be 1 apart
        broken("0.75", differing(-2, -2, -2, -2, -2, -2, -2, -1, 0), 5, 0);
        broken("-0.75", differing(2, 2, 2, 2, 2, 2, 2, 1, 0), 5, 0);
        broken("1.25", differing(-2, -2, -2, -2, -2, -2, -2, 1, 0), 5, 1);
        broken("-1.25", differing(2, 2, 2, 2, 2, 2, 2, -1, 0), 5, -1);
        broken("-1", differing(2, 2, 2, 2, 2, 1, 1, 1, 1), 5, -1);
        RainCans x = Plots.at(0, 0, 0, 1);
        x.miss(0, 0, 9);
        x.miss(1, 0, 9);
        for (int day = 0; day < 28; day++) {
            x.raw(day < 14 ? 0 : 1, day, 999);
            x.raw(day < 14 ? 1 : 0, day, 0);
        }
        broken("the greatest", x, 14, -2 * 9990);
        due.is("breaks(1, 1)", x.breaks(1, 1), 2 * 9990);
        due.is("chance(0, 3)", x.chance(0, 3), 0);
    }

    private void seeds() {
        due.about("promise 16, a seed (0 to 9999)");
        int[] row = {0, 9, 2, 1, 7, 3, 12, 8, 4, 11};
        RainCans x = differing(row);
        due.is("chance(0, -1)", x.chance(0, -1), -2);
        due.is("chance(0, 10000)", x.chance(0, 10000), -2);
        for (int seed : new int[] {0, 1, 2, 4999, 9998, 9999}) {
            due.is("chance(0, " + seed + ")", x.chance(0, seed), WeeksTest.shuffled(row, seed));
        }
        due.is("chance(2, 0)", x.chance(2, 0), -1);
    }

    private void asGreatOrGreater() {
        due.about("promise 16, 99 times; some parting is as great or greater");
        // wherever the 8 is mixed to, the parting in the middle is as great
        due.is("all are as great", differing(0, 0, 0, 0, 0, 0, 0, 8).chance(0, 5), 99);
        due.is("all the same", differing(new int[28]).chance(0, 9999), 99);
        // as great again only if all the high ones come together
        due.is("none is", differing(steps(0, 400, 14, 28)).chance(0, 5), 0);
        int[] row = {0, 0, 0, 0, 0, 0, 8, 8};
        int due8 = WeeksTest.shuffled(row, 5);
        due.is("some are", differing(row).chance(0, 5), due8);
        // two in the same half: 3 of 7 times
        due.holds("some of 99: " + due8, due8 > 25 && due8 < 60);
    }

    private void asItIsLeft() {
        due.about("promise 16, the row of DIFFERENCES as it is left (at first as it stands) is mixed");
        int[] row = {3, 0, 2, 1, 7, 3, 12, 8, 9, 11, 2, 10, 4};
        RainCans x = differing(row);
        for (int seed = 0; seed < 40; seed++) {
            int times = WeeksTest.shuffled(row, seed);
            due.is("chance(0, " + seed + ")", x.chance(0, seed), times);
            due.is("chance(0, " + seed + "), asked again", x.chance(0, seed), times);
        }
        due.is("breaks(0, 0): nothing of it stays", x.breaks(0, 0), differing(row).breaks(0, 0));
        due.is("of(0, 0, 5)", x.of(0, 0, 5), 503);
    }
}
