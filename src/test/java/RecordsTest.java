/** Promises 24 to 32: records, claims, habits. */
public final class RecordsTest {
    private final Due due = new Due();

    public static void main(String[] args) {
        RecordsTest test = new RecordsTest();
        test.record();
        test.seam();
        test.claim();
        test.fives();
        test.odds();
        test.forgets();
        test.images();
        test.imagesKeepAll();
        test.imagesOfOtherGardens();
        test.told();
        test.due.end();
    }

    private static RainCans three() {
        RainCans x = new RainCans();
        x.can(0, 0);
        x.can(0, 1);
        x.can(0, 2);
        int[][] rows = {{5, -1, 7, -1, -1, 1, -1}, {-1, 16, 17, -1, -1, 2, 18}, {21, 22, -1, -1, 24, 3, -1}};
        for (int can = 0; can < 3; can++) {
            for (int day = 0; day < 7; day++) {
                x.raw(can, day, rows[can][day]);
            }
        }
        return x;
    }

    private void record() {
        due.about("promise 24");
        RainCans x = three();
        int[] values = {5, 16, 7, -6, 24, 1, 18};
        int[] cans = {0, 1, 0, -6, 2, 0, 1};
        for (int day = 0; day < 7; day++) {
            due.is("record(123, " + day + ", 0)", x.record(123, day, 0), values[day]);
            due.is("record(123, " + day + ", 1)", x.record(123, day, 1), cans[day]);
            due.is("record(160203, " + day + ", 0)", x.record(160203, day, 0), values[day]);
        }
        due.is("record(321, 0, 0)", x.record(321, 0, 0), 21);
        due.is("record(321, 0, 1)", x.record(321, 0, 1), 2);
        due.is("record(456, 0, 0): CANS that there are not", x.record(456, 0, 0), -6);
        due.is("record(456, 0, 1)", x.record(456, 0, 1), -6);
        due.is("record(666666, 27, 0)", x.record(666666, 27, 0), -6);
        due.is("record(10, 0, 0)", x.record(10, 0, 0), 5);
        due.is("record(0, 0, 0)", x.record(0, 0, 0), -2);
        due.is("record(-1, 0, 0)", x.record(-1, 0, 0), -2);
        due.is("record(666667, 0, 0)", x.record(666667, 0, 0), -2);
        due.is("record(1000000, 0, 0)", x.record(1000000, 0, 0), -2);
        due.is("record(171, 0, 0)", x.record(171, 0, 0), -2);
        due.is("record(700000, 0, 0)", x.record(700000, 0, 0), -2);
        due.is("record(1, 0, 2)", x.record(1, 0, 2), -2);
        due.is("record(1, 0, -1)", x.record(1, 0, -1), -2);
        due.is("record(1, 28, 2), OUTSIDE ahead of UNKNOWN here", x.record(1, 28, 2), -2);
        due.is("record(9, 28, 0)", x.record(9, 28, 0), -2);
        due.is("record(1, 28, 0)", x.record(1, 28, 0), -1);
        due.is("record(1, -1, 0)", x.record(1, -1, 0), -1);
        Plots.say(x, "s1-2");
        x.note(1);
        // CAN 1's SUM of 17 parted by EXPECTED: 22 (CAN 2 alone), 7 (CAN 0 alone)
        due.is("record(213, 1, 0): a VALUE of a SUM", x.record(213, 1, 0), 12);
        due.is("record(213, 2, 0)", x.record(213, 2, 0), 5);
    }

    private void seam() {
        due.about("promise 25");
        RainCans x = three();
        // CANS by DAY: 0, 1, 0, none, 2, 0, 1
        int[] seams = {1, 2, 4, 5, 6};
        due.is("seam(123, -1)", x.seam(123, -1), 5);
        for (int i = 0; i < 5; i++) {
            due.is("seam(123, " + i + ")", x.seam(123, i), seams[i]);
        }
        due.is("seam(123, 5)", x.seam(123, 5), -6);
        due.is("seam(123, MAX)", x.seam(123, Integer.MAX_VALUE), -6);
        due.is("seam(123, -2)", x.seam(123, -2), 71);
        due.is("seam(123, -3): no such DAY, and i is not refused", x.seam(123, -3), -6);
        due.is("seam(123, MIN)", x.seam(123, Integer.MIN_VALUE), -6);
        due.is("seam(0, -3): the row is refused", x.seam(0, -3), -2);
        due.is("seam(666667, MIN)", x.seam(666667, Integer.MIN_VALUE), -2);
        due.is("seam(7, MAX)", x.seam(7, Integer.MAX_VALUE), -2);
        due.is("seam(1, -3) without CANS", new RainCans().seam(1, -3), -6);
        due.is("seam(0, -1)", x.seam(0, -1), -2);
        due.is("seam(8, -1)", x.seam(8, -1), -2);
        due.is("seam(1, -1): DAYS between do not count", x.seam(1, -1), 0);
        due.is("seam(1, 0)", x.seam(1, 0), -6);
        due.is("seam(1, -2)", x.seam(1, -2), 13);
        due.is("seam(6, -1)", x.seam(6, -1), 0);
        due.is("seam(6, -2)", x.seam(6, -2), 0);
    }

    private void claim() {
        due.about("promise 26");
        RainCans x = new RainCans();
        due.is("claim(0, 0) without a CAN", x.claim(0, 0), -1);
        x.can(0, 0);
        x.can(9, 9);
        due.is("claim(0, 0) without a VALUE", x.claim(0, 0), -3);
        x.raw(0, 0, 110);
        due.is("claim(0, 0) of all alone", x.claim(0, 0), 2);
        x.raw(1, 27, 100);
        due.is("claim(0, 0): the other ends at 110", x.claim(0, 0), 1);
        due.is("claim(1, 27): the other begins at its end", x.claim(1, 27), 1);
        x.raw(1, 27, 99);
        due.is("claim(0, 0): the other ends at 108", x.claim(0, 0), 2);
        due.is("claim(1, 27): its own ends at 108", x.claim(1, 27), 0);
        x.raw(0, 5, 110);
        due.is("claim(0, 0): the same CAN's other DAY", x.claim(0, 0), 1);
        x.raw(0, 5, 200);
        due.is("claim(0, 0)", x.claim(0, 0), 0);
        x.set(3, 9);
        due.is("claim(0, 0): its own ends at 209", x.claim(0, 0), 1);
        x.set(3, 0);
        due.is("claim(0, 5)", x.claim(0, 5), 2);
        due.is("claim(0, 28)", x.claim(0, 28), -1);
        due.is("claim(0, -1)", x.claim(0, -1), -1);
        due.is("claim(2, 0)", x.claim(2, 0), -1);
        due.is("claim(1, 0)", x.claim(1, 0), -3);
    }

    private void fives() {
        due.about("promise 27");
        RainCans x = new RainCans();
        due.is("fives(0, 0) without a CAN", x.fives(0, 0), -1);
        x.can(0, 0);
        due.is("fives(0, 0)", x.fives(0, 0), 0);
        due.is("fives(0, 1)", x.fives(0, 1), 0);
        int[] row = {0, 5, 10, 11, 995, 999, 1, 50};
        for (int day = 0; day < row.length; day++) {
            x.raw(0, day, row[day]);
        }
        x.fix(0, 3, 15);
        due.is("fives(0, 0)", x.fives(0, 0), 4);
        due.is("fives(0, 1): 0 does not count", x.fives(0, 1), 7);
        due.is("fives(0, 2)", x.fives(0, 2), -2);
        due.is("fives(0, -1)", x.fives(0, -1), -2);
        due.is("fives(1, 2)", x.fives(1, 2), -1);
        for (int day = 0; day < 28; day++) {
            x.raw(0, day, day >= 25 ? 5 : 1);
        }
        due.is("fives(0, 0): the first 26 alone", x.fives(0, 0), 1);
        due.is("fives(0, 1)", x.fives(0, 1), 26);
        x.raw(0, 0, 0);
        due.is("fives(0, 0)", x.fives(0, 0), 2);
        due.is("fives(0, 1)", x.fives(0, 1), 26);
        x.raw(0, 1, -1);
        due.is("fives(0, 0)", x.fives(0, 0), 3);
        x.raw(0, 2, -1);
        due.is("fives(0, 1)", x.fives(0, 1), 25);
    }

    private void odds() {
        due.about("promise 28");
        RainCans x = new RainCans();
        due.is("odds(0, 0) without a CAN", x.odds(0, 0), -1000000000000000001L);
        x.can(0, 0);
        due.is("odds(0, 2)", x.odds(0, 2), -1000000000000000002L);
        due.is("odds(0, -1)", x.odds(0, -1), -1000000000000000002L);
        due.is("odds(1, 2)", x.odds(1, 2), -1000000000000000001L);
        due.is("odds(0, 0) of none", x.odds(0, 0), 1);
        due.is("odds(0, 1) of none", x.odds(0, 1), 1);
        x.raw(0, 0, 1);
        due.is("odds(0, 0) of 0 in 1", x.odds(0, 0), 1);
        due.is("odds(0, 1) of 0 in 1", x.odds(0, 1), 1);
        x.raw(0, 1, 20);
        due.is("odds(0, 0) of 1 in 2", x.odds(0, 0), 9);
        due.is("odds(0, 1) of 1 in 2", x.odds(0, 1), 25);
        x.raw(0, 0, 15);
        due.is("odds(0, 0) of 2 in 2", x.odds(0, 0), 1);
        due.is("odds(0, 1) of 2 in 2", x.odds(0, 1), 25);
        for (int day = 0; day < 28; day++) {
            x.raw(0, day, 5);
        }
        due.is("odds(0, 0) of 26 in 26", x.odds(0, 0), 1);
        due.is("odds(0, 1) of 26 in 26", x.odds(0, 1), 1490116119384765625L);
        for (int day = 1; day < 28; day++) {
            x.raw(0, day, 6);
        }
        // one less 4 to the 26th by 5 to the 26th
        due.is("odds(0, 0) of 1 in 26", x.odds(0, 0), 1490116119384765625L - 4503599627370496L);
        due.is("odds(0, 1) of 1 in 26", x.odds(0, 1), 1490116119384765625L);
        for (int day = 0; day < 28; day++) {
            x.raw(0, day, day < 5 ? day < 4 ? 10 : 1 : -1);
        }
        // 4 in 5: (20 and 1) by 3125
        due.is("odds(0, 0) of 4 in 5", x.odds(0, 0), 21);
        due.is("odds(0, 1) of 4 in 5", x.odds(0, 1), 3125);
        x.raw(0, 5, 1);
        // 4 in 6: 15 by 16, 6 by 4, 1: 265 by 15625, in lowest terms 53 by 3125
        due.is("odds(0, 0) of 4 in 6", x.odds(0, 0), 53);
        due.is("odds(0, 1) of 4 in 6", x.odds(0, 1), 3125);
    }

    private void forgets() {
        due.about("promise 29");
        RainCans x = new RainCans();
        due.is("forgets(0, 0) without a CAN", x.forgets(0, 0), -1);
        x.can(0, 0);
        due.is("forgets(0, 0)", x.forgets(0, 0), 0);
        due.is("forgets(0, 1)", x.forgets(0, 1), 4);
        for (int day = 0; day < 28; day++) {
            x.raw(0, day, 0);
        }
        due.is("forgets(0, 0) of none", x.forgets(0, 0), 0);
        due.is("forgets(0, 1) of none", x.forgets(0, 1), 0);
        x.raw(0, 27, -1);
        x.fix(0, 27, 4);
        x.fix(0, 1, -1);
        due.is("forgets(0, 0): FIXES do not count", x.forgets(0, 0), 6);
        due.is("forgets(0, 1)", x.forgets(0, 1), 1);
        x.raw(0, 3, -1);
        due.is("forgets(0, 0): the first such", x.forgets(0, 0), 3);
        x.raw(0, 20, -1);
        due.is("forgets(0, 0)", x.forgets(0, 0), 6);
        due.is("forgets(0, 1)", x.forgets(0, 1), 2);
        due.is("forgets(0, 2)", x.forgets(0, 2), -2);
        due.is("forgets(0, -1)", x.forgets(0, -1), -2);
        due.is("forgets(1, 2)", x.forgets(1, 2), -1);
    }

    private void images() {
        due.about("promises 30 and 31");
        RainCans x = new RainCans();
        due.is("image(2)", x.image(2), -2);
        due.is("image(-1)", x.image(-1), -2);
        due.is("restore(2)", x.restore(2), -2);
        due.is("restore(-1)", x.restore(-1), -2);
        due.is("restore(0)", x.restore(0), -3);
        due.is("image(0)", x.image(0), 1);
        due.is("restore(1)", x.restore(1), -3);
        x.can(3, 3);
        x.raw(0, 0, 9);
        x.miss(0, 0, 5);
        due.is("image(1)", x.image(1), 1);
        Plots.say(x, "x0");
        due.is("restore(0)", x.restore(0), 1);
        due.is("told(0)", x.told(0), 0);
        due.is("told(2): the signs stay", x.told(2), 2);
        due.is("raw(0, 0, 1)", x.raw(0, 0, 1), -1);
        due.is("can(4, 4)", x.can(4, 4), 0);
        due.is("of(0, 0, 0): nothing is left of the other CAN", x.of(0, 0, 0), -6);
        due.is("miss(0, 0, 1)", x.miss(0, 0, 1), 0);
        due.is("note(0)", x.note(0), 1);
        due.is("restore(1)", x.restore(1), 1);
        due.is("told(2): they do not come back", x.told(2), 0);
        due.is("of(0, 0, 3)", x.of(0, 0, 3), 18);
        x.raw(0, 0, 10);
        due.is("restore(1), again", x.restore(1), 1);
        due.is("of(0, 0, 0): the IMAGE is not changed by what came behind", x.of(0, 0, 0), 9);
        x.raw(0, 0, 11);
        due.is("image(1), anew", x.image(1), 1);
        x.raw(0, 0, 12);
        due.is("restore(1)", x.restore(1), 1);
        due.is("of(0, 0, 0)", x.of(0, 0, 0), 11);
    }

    private void imagesKeepAll() {
        due.about("promises 30 and 31, all that is kept");
        RainCans x = new RainCans();
        x.can(0, 0);
        x.can(4, 4);
        x.raw(0, 1, 12);
        x.fix(0, 1, 20);
        x.fix(0, 1, 30);
        Plots.say(x, "x2;s5;l7");
        x.note(0);
        x.miss(1, 2, 3);
        x.wind(9, 2);
        x.radar(1, 2, 2, 3, 40);
        x.set(0, 11);
        x.set(1, 12);
        x.set(2, 13);
        x.set(3, 4);
        x.image(0);
        x.can(5, 5);
        x.raw(0, 1, 13);
        x.undo();
        x.fix(1, 1, 5);
        x.note(0);
        x.miss(1, 2, 4);
        x.wind(9, 1);
        x.blind();
        x.radar(2, 3, 3, 4, 50);
        x.radar(2, 3, 3, 4, 50);
        for (int which = 0; which < 4; which++) {
            x.set(which, 9);
        }
        due.is("restore(0)", x.restore(0), 1);
        int[] told = {2, 2, 0, 1, 11, 12, 13, 4};
        for (int what = 0; what < 8; what++) {
            due.is("told(" + what + ")", x.told(what), told[what]);
        }
        due.is("told(19)", x.told(19), 2);
        due.is("of(0, 1, 0)", x.of(0, 1, 0), 12);
        due.is("of(0, 1, 1)", x.of(0, 1, 1), 30);
        due.is("of(1, 1, 1)", x.of(1, 1, 1), -6);
        due.is("miss(1, 2, 0)", x.miss(1, 2, 0), 3);
        due.is("bound by the RADAR", x.bound(1, 2, 2, 1), 40);
        due.is("bound by none", x.bound(2, 3, 3, 1), 9999);
        x.raw(0, 2, 5);
        x.raw(0, 5, 6);
        x.raw(0, 7, 8);
        due.is("of(0, 2, 2): x", x.of(0, 2, 2), -6);
        due.is("of(0, 4, 5): s", x.of(0, 4, 5), 0);
        due.is("of(0, 6, 2): l", x.of(0, 6, 2), 8);
        due.is("undo()", x.undo(), 1);
        due.is("of(0, 1, 1)", x.of(0, 1, 1), 20);
    }

    /** What has other places, NOTES and RADARS by now gets those of the IMAGE again. */
    private void imagesOfOtherGardens() {
        due.about("promises 30 and 31, another garden");
        RainCans x = new RainCans();
        x.image(1);
        x.can(2, 3);
        x.raw(0, 9, 60);
        Plots.say(x, "s8-9");
        x.note(0);
        x.radar(0, 5, 5, 100, 200);
        x.image(0);
        x.restore(1);
        for (int can = 0; can < 6; can++) {
            x.can(20, 20);
            x.miss(can, 2, 1 + can);
        }
        Plots.say(x, "s6-10;s12-13");
        x.note(0);
        x.radar(0, 5, 5, 150, 160);
        x.image(1);
        due.is("restore(0)", x.restore(0), 1);
        due.is("told(0)", x.told(0), 1);
        due.is("bound at the CAN", x.bound(9, 2, 3, 0), 60);
        due.is("bound beside the CAN", x.bound(9, 3, 5, 1), 75);
        due.is("bound by the RADAR, least", x.bound(0, 5, 5, 0), 100);
        due.is("bound by the RADAR, most", x.bound(0, 5, 5, 1), 200);
        due.is("of(0, 7, 5)", x.of(0, 7, 5), -6);
        due.is("of(0, 8, 5)", x.of(0, 8, 5), 0);
        due.is("of(0, 9, 5)", x.of(0, 9, 5), 60);
        due.is("restore(1)", x.restore(1), 1);
        due.is("told(0)", x.told(0), 6);
        for (int can = 0; can < 6; can++) {
            due.is("miss(" + can + ", 2, 0)", x.miss(can, 2, 0), 1 + can);
        }
        x.raw(0, 10, 60);
        due.is("of(0, 6, 5)", x.of(0, 6, 5), 0);
        due.is("bound at the CAN", x.bound(10, 20, 20, 0), 60);
    }

    private void told() {
        due.about("promise 32");
        RainCans x = three();
        x.fix(0, 0, 1);
        Plots.say(x, "abc");
        x.radar(0, 0, 0, 0, 0);
        x.radar(0, 0, 0, 0, 0);
        x.wind(0, 1);
        x.wind(27, 2);
        int[] told = {3, 1, 3, 2, 10, 50, 5, 1, -2, -2, 1, 0};
        for (int what = 0; what < told.length; what++) {
            due.is("told(" + what + ")", x.told(what), told[what]);
        }
        due.is("told(37)", x.told(37), 2);
        due.is("told(38)", x.told(38), -2);
        due.is("told(-1)", x.told(-1), -2);
        due.is("told(MIN)", x.told(Integer.MIN_VALUE), -2);
        due.is("told(MAX)", x.told(Integer.MAX_VALUE), -2);
    }
}
