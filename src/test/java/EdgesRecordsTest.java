/** Part 5 of the terms, promises 24 to 32: one test for each sentence that names an edge. */
public final class EdgesRecordsTest {
    private static final int NONE = -6;
    private static final int MIN = Integer.MIN_VALUE, MAX = Integer.MAX_VALUE;

    private final Due due = new Due();

    public static void main(String[] args) {
        EdgesRecordsTest test = new EdgesRecordsTest();
        test.rowEnds();
        test.digits();
        test.digitsThatArePassedOver();
        test.firstDigitFirst();
        test.recordOfNone();
        test.recordRefusals();
        test.seamsOfNoneAndOne();
        test.seamsOfAllDays();
        test.lastDayThatHadOne();
        test.seamsThatThereAreNot();
        test.sumOfTheRecord();
        test.claimOfAll();
        test.claimBesideEveryCell();
        test.claimEndsBelow();
        test.claimBeginsAbove();
        test.claimByDoubt();
        test.claimState();
        test.fivesOfTheFirst();
        test.fivesEnds();
        test.fivesOfRaw();
        test.oddsOfNone();
        test.oddsOfAtLeast();
        test.oddsInLowestTerms();
        test.oddsOfTwentySix();
        test.forgetsOfNone();
        test.forgetsTheFirst();
        test.forgetsOfRaw();
        test.imageEnds();
        test.imageIsNotKept();
        test.imageKeepsAll();
        test.imageKeepsEveryCell();
        test.imageKeepsNoSigns();
        test.imagesApart();
        test.imageOfNothing();
        test.toldEnds();
        test.due.end();
    }

    private void rowEnds() {
        due.about("promises 24 and 25, OUTSIDE: the row 1 to 666666");
        int[] taken = {1, 2, 6, 10, 66, 66666, 100000, 666666, 666665, 600000};
        int[] not = {0, -1, 666667, 666670, 700000, 1000000, 1000001, 999999, MIN, MAX, -111, -666666};
        RainCans x = Plots.at(0, 0);
        for (int row : taken) {
            due.is("record(" + row + ", 0, 0)", x.record(row, 0, 0), NONE);
            due.is("seam(" + row + ", -1)", x.seam(row, -1), 0);
        }
        for (int row : not) {
            due.is("record(" + row + ", 0, 0)", x.record(row, 0, 0), -2);
            due.is("seam(" + row + ", -1)", x.seam(row, -1), -2);
        }
    }

    private void digits() {
        due.about("promises 24 and 25, OUTSIDE: digits 0 to 6");
        RainCans x = Plots.at(0, 0);
        for (int unit = 1; unit <= 100000; unit *= 10) {
            for (int digit = 1; digit <= 9; digit++) {
                // with a 1 ahead of it wherever there is room for one
                int row = digit * unit + (unit < 100000 ? 100000 : 0);
                due.is("record(" + row + ", 5, 1)", x.record(row, 5, 1), digit <= 6 ? NONE : -2);
                due.is("seam(" + row + ", 0)", x.seam(row, 0), digit <= 6 ? NONE : -2);
            }
        }
    }

    private void digitsThatArePassedOver() {
        due.about("promise 24, 0 is passed over; those that there are not are passed over");
        RainCans x = Plots.at(0, 0, 0, 1);
        x.raw(0, 3, 30);
        x.raw(1, 3, 40);
        int[] first = {1, 10, 100000, 100002, 10002, 301, 31, 3001, 654312, 600001, 11, 111111, 60010, 45612};
        for (int row : first) {
            due.is("record(" + row + ", 3, 1)", x.record(row, 3, 1), 0);
            due.is("record(" + row + ", 3, 0)", x.record(row, 3, 0), 30);
        }
        int[] second = {2, 20, 21, 200001, 321, 654321, 600002, 52};
        for (int row : second) {
            due.is("record(" + row + ", 3, 1)", x.record(row, 3, 1), 1);
            due.is("record(" + row + ", 3, 0)", x.record(row, 3, 0), 40);
        }
        int[] none = {3, 6, 3456, 666666, 300000, 300};
        for (int row : none) {
            due.is("record(" + row + ", 3, 1)", x.record(row, 3, 1), NONE);
            due.is("seam(" + row + ", -2)", x.seam(row, -2), 0);
        }
    }

    private void firstDigitFirst() {
        due.about("promise 24, its first digit is the first CAN, told by 1 to 6 for CANS 0 to 5");
        RainCans x = Plots.at(0, 0, 0, 1, 0, 2, 0, 3, 0, 4, 0, 5);
        for (int can = 0; can < 6; can++) {
            x.raw(can, 0, 100 + can);
            x.raw(can, 20 + can, 200 + can);
        }
        for (int can = 0; can < 6; can++) {
            due.is("record(" + (can + 1) + ", 0, 1)", x.record(can + 1, 0, 1), can);
            due.is("record(" + (can + 1) + ", 0, 0)", x.record(can + 1, 0, 0), 100 + can);
            due.is("record(123456, " + (20 + can) + ", 1): the first that has one", x.record(123456, 20 + can, 1), can);
            due.is("record(654321, " + (20 + can) + ", 0)", x.record(654321, 20 + can, 0), 200 + can);
        }
        due.is("record(123456, 0, 1)", x.record(123456, 0, 1), 0);
        due.is("record(654321, 0, 1)", x.record(654321, 0, 1), 5);
        due.is("record(345612, 0, 1)", x.record(345612, 0, 1), 2);
        due.is("record(23, 20, 0): CAN 0 is not of it", x.record(23, 20, 0), NONE);
    }

    private void recordOfNone() {
        due.about("promise 24, NONE");
        RainCans x = new RainCans();
        due.is("record(123456, 0, 0) without CANS", x.record(123456, 0, 0), NONE);
        due.is("record(123456, 27, 1) without CANS", x.record(123456, 27, 1), NONE);
        due.is("seam(123456, -1) without CANS", x.seam(123456, -1), 0);
        due.is("seam(123456, -2) without CANS", x.seam(123456, -2), 0);
        due.is("seam(123456, 0) without CANS", x.seam(123456, 0), NONE);
        x.can(0, 0);
        x.raw(0, 27, 0);
        due.is("record(1, 26, 0)", x.record(1, 26, 0), NONE);
        due.is("record(1, 27, 0): 0 is not nothing", x.record(1, 27, 0), 0);
        due.is("record(1, 27, 1)", x.record(1, 27, 1), 0);
        Plots.note(x, 0, "s27");
        due.is("record(1, 26, 0): of a SUM it has one", x.record(1, 26, 0), 0);
        due.is("record(1, 26, 1)", x.record(1, 26, 1), 0);
        Plots.note(x, 0, "x27");
        due.is("record(1, 27, 0)", x.record(1, 27, 0), NONE);
    }

    private void recordRefusals() {
        due.about("promise 24, OUTSIDE: the row, what; UNKNOWN: the DAY (behind these)");
        RainCans x = Plots.at(0, 0);
        for (int day : new int[] {-1, 28, MIN, MAX}) {
            due.is("record(1, " + day + ", 0)", x.record(1, day, 0), -1);
            due.is("record(1, " + day + ", 1)", x.record(1, day, 1), -1);
            due.is("record(0, " + day + ", 0)", x.record(0, day, 0), -2);
            due.is("record(7, " + day + ", 0)", x.record(7, day, 0), -2);
            due.is("record(1, " + day + ", 2)", x.record(1, day, 2), -2);
            due.is("record(1, " + day + ", -1)", x.record(1, day, -1), -2);
        }
        due.is("record(1, 0, 2)", x.record(1, 0, 2), -2);
        due.is("record(1, 0, -1)", x.record(1, 0, -1), -2);
    }

    private void seamsOfNoneAndOne() {
        due.about("promise 25, SEAMS: DAYS on which that is another CAN than on the last DAY that had one");
        RainCans x = Plots.at(0, 0, 0, 1);
        x.raw(0, 0, 5);
        due.is("seam(12, -1): the first DAY is none", x.seam(12, -1), 0);
        due.is("seam(12, 0)", x.seam(12, 0), NONE);
        x.raw(1, 27, 6);
        due.is("seam(12, -1): the last DAY is one", x.seam(12, -1), 1);
        due.is("seam(12, 0)", x.seam(12, 0), 27);
        due.is("seam(12, 1)", x.seam(12, 1), NONE);
        due.is("seam(1, -1)", x.seam(1, -1), 0);
        due.is("seam(2, -1): of one DAY", x.seam(2, -1), 0);
        x.raw(1, 0, 7);
        due.is("seam(21, -1): the same CAN on both", x.seam(21, -1), 0);
    }

    private void seamsOfAllDays() {
        due.about("promise 25, SEAMS on every DAY but the first");
        RainCans x = Plots.at(0, 0, 0, 1);
        for (int day = 0; day < 28; day++) {
            x.raw(day % 2, day, day);
        }
        due.is("seam(12, -1)", x.seam(12, -1), 27);
        for (int i = 0; i < 27; i++) {
            due.is("seam(12, " + i + ")", x.seam(12, i), i + 1);
        }
        due.is("seam(12, 27)", x.seam(12, 27), NONE);
        due.is("seam(12, 28)", x.seam(12, 28), NONE);
        due.is("seam(12, -2)", x.seam(12, -2), 27 * 14);
    }

    private void lastDayThatHadOne() {
        due.about("promise 25, the last DAY that had one");
        RainCans x = Plots.at(0, 0, 0, 1);
        x.raw(0, 3, 1);
        x.raw(0, 9, 2);
        x.raw(1, 15, 3);
        x.raw(1, 20, 4);
        due.is("seam(12, -1): DAYS without one between the same CAN's are no SEAMS", x.seam(12, -1), 1);
        due.is("seam(12, 0)", x.seam(12, 0), 15);
        x.raw(0, 20, 9);
        due.is("seam(12, -1)", x.seam(12, -1), 2);
        due.is("seam(12, 1)", x.seam(12, 1), 20);
        due.is("seam(21, -1): another row, other SEAMS", x.seam(21, -1), 1);
    }

    private void seamsThatThereAreNot() {
        due.about("promise 25, how many (i = -1), the i-th DAY; NONE; i = -2: the sum");
        RainCans x = Plots.at(0, 0, 0, 1);
        x.raw(0, 3, 10);
        x.raw(1, 4, 20);
        int[] i = {MIN, -1000, -4, -3, -2, -1, 0, 1, 2, 27, 28, MAX};
        int[] want = {NONE, NONE, NONE, NONE, 30, 1, 4, NONE, NONE, NONE, NONE, NONE};
        for (int n = 0; n < i.length; n++) {
            due.is("seam(12, " + i[n] + ")", x.seam(12, i[n]), want[n]);
            due.is("seam(7, " + i[n] + "): the row is refused", x.seam(7, i[n]), -2);
        }
    }

    private void sumOfTheRecord() {
        due.about("promise 25, i = -2: the sum of the RECORD");
        RainCans x = Plots.at(0, 0, 20, 20);
        due.is("seam(12, -2) of nothing", x.seam(12, -2), 0);
        x.miss(0, 0, 9);
        for (int day = 0; day < 28; day++) {
            x.raw(0, day, 999);
            x.raw(1, day, 1);
        }
        due.is("seam(12, -2): the greatest", x.seam(12, -2), 28 * 9990);
        due.is("seam(21, -2)", x.seam(21, -2), 28);
        x.raw(1, 0, -1);
        due.is("seam(21, -2)", x.seam(21, -2), 9990 + 27);
        due.is("seam(2, -2)", x.seam(2, -2), 27);
    }

    private void claimOfAll() {
        due.about("promise 26, that a CAN on a DAY had the greatest VALUE of all");
        RainCans x = Plots.at(0, 0, 20, 20);
        x.raw(0, 0, 0);
        due.is("claim(0, 0) of 0, alone", x.claim(0, 0), 2);
        x.raw(0, 0, 100);
        due.is("claim(0, 0) of one alone", x.claim(0, 0), 2);
        x.raw(0, 27, 500);
        due.is("claim(0, 0): another DAY of its own", x.claim(0, 0), 0);
        due.is("claim(0, 27)", x.claim(0, 27), 2);
        x.raw(1, 0, 600);
        due.is("claim(0, 27): another CAN, another DAY", x.claim(0, 27), 0);
        x.raw(1, 27, 700);
        due.is("claim(1, 27)", x.claim(1, 27), 2);
        due.is("claim(1, 0)", x.claim(1, 0), 0);
        Plots.note(x, 1, "x27");
        due.is("claim(1, 0): DAYS of x have no VALUE", x.claim(1, 0), 2);
        x.miss(0, 0, 5);
        due.is("claim(1, 0): VALUES, not RAW", x.claim(1, 0), 0);
        due.is("claim(0, 27)", x.claim(0, 27), 2);
    }

    private void claimBesideEveryCell() {
        due.about("promise 26, of all: every CAN on every DAY");
        for (int can = 0; can < 6; can++) {
            for (int day = 0; day < 28; day++) {
                RainCans x = Plots.at(0, 0, 0, 0, 0, 0, 0, 0, 0, 0, 0, 0);
                x.raw(3, 10, 100);
                boolean own = can == 3 && day == 10;
                x.raw(can, day, 100);
                due.is("claim(3, 10) beside as much in " + can + ", " + day, x.claim(3, 10), own ? 2 : 1);
                x.raw(can, day, 200);
                due.is("claim(3, 10) beside more in " + can + ", " + day, x.claim(3, 10), own ? 2 : 0);
            }
        }
    }

    private static RainCans two(int doubt, int first, int second) {
        RainCans x = Plots.at(0, 0, 20, 20);
        x.set(3, doubt);
        x.raw(0, 5, first);
        x.raw(1, 9, second);
        return x;
    }

    private void claimEndsBelow() {
        due.about("promise 26, 2: all other SPANS end below where its own begins");
        // 100 ends at 110
        due.is("claim of 111", two(1, 111, 100).claim(0, 5), 2);
        due.is("claim of 110", two(1, 110, 100).claim(0, 5), 1);
        due.is("claim of 109", two(1, 109, 100).claim(0, 5), 1);
        // 109 ends at 119.9, cut
        due.is("claim of 120", two(1, 120, 109).claim(0, 5), 2);
        due.is("claim of 119", two(1, 119, 109).claim(0, 5), 1);
        // 9 ends at 9.9, cut
        due.is("claim of 10", two(1, 10, 9).claim(0, 5), 2);
        due.is("claim of 1 beside 0", two(1, 1, 0).claim(0, 5), 2);
        due.is("claim of 0 beside 0", two(1, 0, 0).claim(0, 5), 1);
        RainCans x = two(1, 111, 100);
        x.raw(1, 10, 101);
        due.is("claim of 111: some other ends at it", x.claim(0, 5), 1);
    }

    private void claimBeginsAbove() {
        due.about("promise 26, 0: some other SPAN begins above where its own ends; 1: else");
        due.is("claim of 100 beside 110", two(1, 100, 110).claim(0, 5), 1);
        due.is("claim of 100 beside 111", two(1, 100, 111).claim(0, 5), 0);
        due.is("claim of 109 beside 119", two(1, 109, 119).claim(0, 5), 1);
        due.is("claim of 109 beside 120", two(1, 109, 120).claim(0, 5), 0);
        due.is("claim of 100 beside 100", two(1, 100, 100).claim(0, 5), 1);
        RainCans x = two(1, 100, 50);
        x.raw(0, 27, 111);
        due.is("claim of 100: one of several", x.claim(0, 5), 0);
        x.raw(0, 27, 20);
        due.is("claim of 100", x.claim(0, 5), 2);
    }

    private void claimByDoubt() {
        due.about("promise 26, SPAN: from it to it times 10 and DOUBT (0 to 9 tenths; 1 at first) by 10");
        due.is("DOUBT 0, as much", two(0, 100, 100).claim(0, 5), 1);
        due.is("DOUBT 0, one more", two(0, 101, 100).claim(0, 5), 2);
        due.is("DOUBT 0, one less", two(0, 99, 100).claim(0, 5), 0);
        due.is("DOUBT 9: 190", two(9, 190, 100).claim(0, 5), 1);
        due.is("DOUBT 9: 191", two(9, 191, 100).claim(0, 5), 2);
        due.is("DOUBT 9: 100 beside 190", two(9, 100, 190).claim(0, 5), 1);
        due.is("DOUBT 9: 100 beside 191", two(9, 100, 191).claim(0, 5), 0);
        RainCans x = Plots.at(0, 0);
        x.raw(0, 0, 110);
        x.raw(0, 1, 100);
        due.is("DOUBT 1 at first", x.claim(0, 0), 1);
        x.raw(0, 0, 111);
        due.is("DOUBT 1 at first", x.claim(0, 0), 2);
    }

    private void claimState() {
        due.about("promise 26, UNKNOWN; STATE: there is no VALUE");
        RainCans x = Plots.at(0, 0);
        due.is("claim(0, 0)", x.claim(0, 0), -3);
        due.is("claim(0, 27)", x.claim(0, 27), -3);
        due.is("claim(0, 28)", x.claim(0, 28), -1);
        due.is("claim(0, -1)", x.claim(0, -1), -1);
        due.is("claim(1, 0)", x.claim(1, 0), -1);
        x.raw(0, 1, 0);
        due.is("claim(0, 1) of 0", x.claim(0, 1), 2);
        Plots.note(x, 0, "s1");
        due.is("claim(0, 0) of a SUM", x.claim(0, 0), 1);
        x.fix(0, 1, -1);
        due.is("claim(0, 0)", x.claim(0, 0), -3);
    }

    private static RainCans reading(int... readings) {
        RainCans x = Plots.at(0, 0);
        Plots.read(x, 0, 0, readings);
        return x;
    }

    private void fives(String what, RainCans x, int round, int of) {
        due.is(what + ": fives(0, 0)", x.fives(0, 0), round);
        due.is(what + ": fives(0, 1)", x.fives(0, 1), of);
    }

    private void fivesOfTheFirst() {
        due.about("promise 27, of the first 26 RAW above 0");
        for (int count = 0; count <= 28; count++) {
            RainCans x = Plots.at(0, 0);
            for (int n = 0; n < count; n++) {
                x.raw(0, n, n == 25 ? 10 : n > 25 ? 15 : 1);
            }
            fives(count + " of them", x, count >= 26 ? 1 : 0, Math.min(26, count));
        }
        RainCans x = Plots.at(0, 0);
        for (int day = 0; day < 28; day++) {
            x.raw(0, day, 5);
        }
        fives("28", x, 26, 26);
        x.raw(0, 0, 0);
        x.raw(0, 1, -1);
        fives("26, the last DAYS, too", x, 26, 26);
        x.raw(0, 27, 4);
        fives("the last one does not end in 5", x, 25, 26);
        x.raw(0, 2, 0);
        fives("25", x, 24, 25);
    }

    private void fivesEnds() {
        due.about("promise 27, above 0 those that end in 0 or 5: how many of how many");
        fives("none", reading(), 0, 0);
        fives("0 is not above 0", reading(0, 0, 0), 0, 0);
        fives("1 to 10", reading(1, 2, 3, 4, 5, 6, 7, 8, 9, 10), 2, 10);
        fives("the ends", reading(999, 995, 990, 1), 2, 4);
        due.is("fives(0, 2)", reading().fives(0, 2), -2);
        due.is("fives(0, -1)", reading().fives(0, -1), -2);
        due.is("fives(1, 2)", reading().fives(1, 2), -1);
    }

    private void fivesOfRaw() {
        due.about("promise 27, RAW (without FIXES)");
        RainCans x = reading(5, 6, -1, 7);
        x.fix(0, 0, 6);
        x.fix(0, 1, 10);
        x.fix(0, 2, 15);
        x.fix(0, 3, -1);
        fives("FIXES", x, 1, 3);
        x.miss(0, 0, 5);
        Plots.note(x, 0, "x0;l3");
        fives("MISS and NOTES", x, 1, 3);
    }

    private void odds(String what, RainCans x, long upper, long lower) {
        due.is(what + ": odds(0, 0)", x.odds(0, 0), upper);
        due.is(what + ": odds(0, 1)", x.odds(0, 1), lower);
    }

    private void oddsOfNone() {
        due.about("promise 28, ODDS of none");
        odds("of none in none", reading(), 1, 1);
        odds("of none in none, of 0", reading(0, 0), 1, 1);
        odds("of none in one", reading(1), 1, 1);
        odds("of none in three", reading(1, 2, 3), 1, 1);
        due.is("odds(0, 2)", reading().odds(0, 2), -1000000000000000002L);
        due.is("odds(0, -1)", reading().odds(0, -1), -1000000000000000002L);
        due.is("odds(1, 0)", reading().odds(1, 0), -1000000000000000001L);
        due.is("odds(1, 2)", reading().odds(1, 2), -1000000000000000001L);
    }

    private void oddsOfAtLeast() {
        due.about("promise 28, that at least so many of them do by chance, each with odds of 1 by 5");
        odds("one in one", reading(5), 1, 5);
        odds("one in two: 8 and 1", reading(5, 1), 9, 25);
        odds("two in two", reading(5, 10), 1, 25);
        odds("one in three: 48, 12 and 1", reading(5, 1, 1), 61, 125);
        odds("two in three: 12 and 1", reading(5, 10, 1), 13, 125);
        odds("three in three", reading(5, 10, 15), 1, 125);
    }

    private void oddsInLowestTerms() {
        due.about("promise 28, in lowest terms");
        // 15 times 16, 6 times 4, 1: 265 by 15625
        odds("four in six", reading(5, 5, 5, 5, 1, 1), 53, 3125);
        // 4 times 5 and 1 by 3125
        odds("four in five", reading(5, 5, 5, 5, 1), 21, 3125);
        // 20 times 64, 15 times 16, 6 times 4, 1: 1545 by 15625
        odds("three in six", reading(5, 5, 5, 1, 1, 1), 309, 3125);
    }

    private void oddsOfTwentySix() {
        due.about("promise 28, ODDS of 26");
        RainCans x = Plots.at(0, 0);
        for (int day = 0; day < 28; day++) {
            x.raw(0, day, day < 2 ? 0 : 1);
        }
        odds("of none in 26", x, 1, 1);
        x.raw(0, 27, 5);
        odds("of one in 26", x, 1490116119384765625L - 4503599627370496L, 1490116119384765625L);
        for (int day = 2; day < 28; day++) {
            x.raw(0, day, 5);
        }
        odds("of 26 in 26", x, 1, 1490116119384765625L);
        x.raw(0, 2, 1);
        // 26 times 4, and 1: 105
        odds("of 25 in 26", x, 21, 298023223876953125L);
        x.raw(0, 0, 5);
        odds("of 25 in 26: the 27th does not count", x, 21, 298023223876953125L);
    }

    private void forgets(String what, RainCans x, int weekday, int days) {
        due.is(what + ": forgets(0, 0)", x.forgets(0, 0), weekday);
        due.is(what + ": forgets(0, 1)", x.forgets(0, 1), days);
    }

    private static RainCans reader() {
        RainCans x = Plots.at(0, 0, 1, 1);
        for (int day = 0; day < 28; day++) {
            x.raw(0, day, 0);
        }
        return x;
    }

    private void forgetsOfNone() {
        due.about("promise 29, FORGETS with no DAY or all DAYS without RAW");
        forgets("no DAY", reader(), 0, 0);
        forgets("all DAYS", reading(), 0, 4);
        due.is("forgets(1, 0): all DAYS of the other CAN", reader().forgets(1, 0), 0);
        due.is("forgets(1, 1)", reader().forgets(1, 1), 4);
        for (int day = 0; day < 28; day++) {
            RainCans x = reader();
            x.raw(0, day, -1);
            forgets("DAY " + day + " alone", x, day % 7, 1);
        }
        due.is("forgets(0, 2)", reader().forgets(0, 2), -2);
        due.is("forgets(0, -1)", reader().forgets(0, -1), -2);
        due.is("forgets(2, 2)", reader().forgets(2, 2), -1);
    }

    private void forgetsTheFirst() {
        due.about("promise 29, the weekday with most DAYS without RAW, the first such");
        RainCans x = reader();
        x.raw(0, 6, -1);
        x.raw(0, 2, -1);
        forgets("2 and 6, one each", x, 2, 1);
        x.raw(0, 27, -1);
        forgets("6 has two", x, 6, 2);
        x.raw(0, 9, -1);
        forgets("2 has two as well", x, 2, 2);
        for (int week = 0; week < 4; week++) {
            x.raw(0, 7 * week, -1);
            x.raw(0, 7 * week + 6, -1);
        }
        forgets("0 and 6, four each", x, 0, 4);
        x.raw(0, 0, 5);
        forgets("0 has three", x, 6, 4);
    }

    private void forgetsOfRaw() {
        due.about("promise 29, DAYS without RAW");
        RainCans x = reader();
        x.raw(0, 4, -1);
        x.fix(0, 4, 10);
        x.fix(0, 1, -1);
        x.fix(0, 8, -1);
        Plots.note(x, 0, "x3;x10");
        forgets("FIXES and NOTES do not count", x, 4, 1);
    }

    private void imageEnds() {
        due.about("promises 30 and 31, an IMAGE (0, 1)");
        for (int n : new int[] {-1, 2, 3, MIN, MAX}) {
            RainCans x = new RainCans();
            due.is("image(" + n + ")", x.image(n), -2);
            due.is("restore(" + n + ")", x.restore(n), -2);
            due.is("restore(0)", x.restore(0), -3);
            due.is("restore(1)", x.restore(1), -3);
        }
        RainCans x = new RainCans();
        due.is("image(0)", x.image(0), 1);
        due.is("image(1)", x.image(1), 1);
        due.is("restore(0)", x.restore(0), 1);
        due.is("restore(1)", x.restore(1), 1);
        due.is("restore(2): OUTSIDE", x.restore(2), -2);
    }

    private void imageIsNotKept() {
        due.about("promise 31, STATE: it was not");
        RainCans x = new RainCans();
        due.is("restore(0)", x.restore(0), -3);
        x.image(1);
        due.is("restore(0): the other one was", x.restore(0), -3);
        due.is("restore(1)", x.restore(1), 1);
        due.is("restore(0): an IMAGE keeps no IMAGES", x.restore(0), -3);
        x.image(0);
        due.is("restore(0)", x.restore(0), 1);
        due.is("restore(0), again", x.restore(0), 1);
    }

    private void imageKeepsAll() {
        due.about("promises 30 and 31, All but signs is kept: it is as it was when it was kept");
        RainCans x = new RainCans();
        x.image(1);
        kept(x);
        x.image(0);
        due.is("restore(1): a new object again", x.restore(1), 1);
        other(x);
        due.is("restore(0)", x.restore(0), 1);
        due.is("told(0), CANS", x.told(0), 2);
        due.is("bound where CAN 1 stands", x.bound(6, 7, 8, 1), 40);
        due.is("bound where it does not", x.bound(6, 8, 7, 1), 50);
        due.is("miss(1, 2, 0)", x.miss(1, 2, 0), 4);
        due.is("wind(5, 0)", x.wind(5, 0), 2);
        due.is("of(0, 6, 0), RAW", x.of(0, 6, 0), 30);
        due.is("of(0, 9, 2), NOTES: x", x.of(0, 9, 2), NONE);
        due.is("of(0, 11, 2), NOTES: l", x.of(0, 11, 2), 12);
        due.is("of(0, 14, 5), NOTES: the DAY ahead of s", x.of(0, 14, 5), 14);
        due.is("of(0, 15, 5), NOTES: s", x.of(0, 15, 5), 0);
        due.is("of(0, 16, 2), NOTES: s", x.of(0, 16, 2), NONE);
        due.is("of(0, 17, 5), NOTES: s", x.of(0, 17, 5), 17);
        due.is("of(0, 18, 2), NOTES: the DAY behind", x.of(0, 18, 2), 18);
        due.is("told(1), FIXES", x.told(1), 3);
        due.is("of(0, 6, 1)", x.of(0, 6, 1), 32);
        due.is("undo()", x.undo(), 2);
        due.is("of(0, 6, 1)", x.of(0, 6, 1), 31);
        due.is("undo()", x.undo(), 1);
        due.is("of(0, 6, 1)", x.of(0, 6, 1), 30);
        due.is("of(1, 6, 1)", x.of(1, 6, 1), 40);
        due.is("undo()", x.undo(), 0);
        due.is("of(1, 6, 1)", x.of(1, 6, 1), NONE);
        due.is("told(3), RADARS", x.told(3), 1);
        due.is("bound by the RADAR, least", x.bound(2, 3, 4, 0), 55);
        due.is("bound by the RADAR, most", x.bound(2, 3, 4, 1), 66);
        int[] set = {20, 30, 5, 4};
        for (int which = 0; which < 4; which++) {
            due.is("told(" + (4 + which) + ")", x.told(4 + which), set[which]);
        }
    }

    private static void kept(RainCans x) {
        x.can(1, 2);
        x.can(7, 8);
        x.miss(1, 2, 4);
        x.wind(5, 2);
        x.raw(0, 6, 30);
        for (int day = 9; day < 20; day++) {
            x.raw(0, day, day);
        }
        Plots.note(x, 0, "x9;l12;s15-17");
        x.fix(1, 6, 40);
        x.fix(0, 6, 31);
        x.fix(0, 6, 32);
        x.radar(2, 3, 4, 55, 66);
        x.set(0, 20);
        x.set(1, 30);
        x.set(3, 4);
    }

    /** Another garden, so that each number of the first one has another in its place. */
    private static void other(RainCans x) {
        for (int n = 0; n < 6; n++) {
            x.can(20 - n, n);
            x.miss(n, 2, 9);
            Plots.note(x, n, "l9;x12;s14-18");
            x.raw(n, 6, 999);
            for (int k = 0; k < 3; k++) {
                x.fix(n, 20 + k, 900 + k);
            }
            x.radar(3, 5, 6, 777, 888);
        }
        x.wind(5, 1);
        x.set(0, 1);
        x.set(1, 1);
        x.set(2, 1);
        x.set(3, 1);
    }

    private void imageKeepsEveryCell() {
        due.about("promises 30 and 31, every CAN's MISS and RAW, every DAY's WIND");
        RainCans x = new RainCans();
        x.image(1);
        for (int can = 0; can < 6; can++) {
            x.can(can, can);
            for (int wind = 0; wind < 3; wind++) {
                x.miss(can, wind, can + wind + 1);
            }
            for (int day = 0; day < 28; day++) {
                x.raw(can, day, 28 * can + day);
            }
        }
        for (int day = 0; day < 28; day++) {
            x.wind(day, 1 + day % 2);
        }
        x.image(0);
        x.restore(1);
        for (int n = 0; n < 18; n++) {
            if (n % 3 == 0) {
                x.can(9, 9);
            }
            x.miss(n / 3, n % 3, 9);
        }
        x.restore(0);
        for (int can = 0; can < 6; can++) {
            for (int wind = 0; wind < 3; wind++) {
                due.is("miss(" + can + ", " + wind + ", 0)", x.miss(can, wind, 0), can + wind + 1);
            }
            for (int day = 0; day < 28; day++) {
                due.is("of(" + can + ", " + day + ", 0)", x.of(can, day, 0), 28 * can + day);
            }
        }
        for (int day = 0; day < 28; day++) {
            due.is("told(" + (10 + day) + ")", x.told(10 + day), 1 + day % 2);
        }
    }

    private void imageKeepsNoSigns() {
        due.about("promises 30 and 31, All but signs");
        RainCans x = Plots.at(0, 0);
        Plots.say(x, "x1");
        x.image(0);
        x.say(';');
        due.is("restore(0)", x.restore(0), 1);
        due.is("told(2): the signs are as they are", x.told(2), 3);
        due.is("fault()", x.fault(), 3);
        x.wipe();
        due.is("restore(0)", x.restore(0), 1);
        due.is("told(2): they do not come back", x.told(2), 0);
        Plots.say(x, "x2");
        due.is("image(1)", x.image(1), 1);
        due.is("told(2): keeping takes none", x.told(2), 2);
        due.is("note(0)", x.note(0), 1);
    }

    private void imagesApart() {
        due.about("promises 30 and 31, two IMAGES");
        RainCans x = Plots.at(0, 0);
        x.raw(0, 0, 10);
        x.image(0);
        x.raw(0, 0, 20);
        x.image(1);
        x.raw(0, 0, 30);
        due.is("restore(0)", x.restore(0), 1);
        due.is("of(0, 0, 0)", x.of(0, 0, 0), 10);
        x.raw(0, 0, 40);
        due.is("restore(1)", x.restore(1), 1);
        due.is("of(0, 0, 5)", x.of(0, 0, 5), 20);
        due.is("restore(0)", x.restore(0), 1);
        due.is("of(0, 0, 5): what was changed behind it is not in it", x.of(0, 0, 5), 10);
        x.raw(0, 0, 50);
        due.is("image(0): anew", x.image(0), 1);
        x.raw(0, 0, 60);
        due.is("restore(0)", x.restore(0), 1);
        due.is("of(0, 0, 0)", x.of(0, 0, 0), 50);
        due.is("restore(1)", x.restore(1), 1);
        due.is("of(0, 0, 0): the other one is as it was", x.of(0, 0, 0), 20);
    }

    private void imageOfNothing() {
        due.about("promises 30 and 31, an IMAGE of a new object");
        RainCans x = new RainCans();
        x.image(1);
        x.can(1, 1);
        x.raw(0, 3, 9);
        x.fix(0, 3, 8);
        x.miss(0, 0, 5);
        Plots.note(x, 0, "x4");
        x.radar(0, 0, 0, 0, 0);
        x.wind(3, 2);
        x.set(0, 40);
        due.is("restore(1)", x.restore(1), 1);
        int[] told = {0, 0, 0, 0, 10, 50, 5, 1};
        for (int what = 0; what < 8; what++) {
            due.is("told(" + what + ")", x.told(what), told[what]);
        }
        due.is("told(13)", x.told(13), 0);
        due.is("undo()", x.undo(), -5);
        due.is("of(0, 3, 0)", x.of(0, 3, 0), -1);
        due.is("can(2, 2): numbered from 0 on", x.can(2, 2), 0);
        due.is("of(0, 3, 1): it has nothing of the other one", x.of(0, 3, 1), NONE);
        due.is("raw(0, 4, 6)", x.raw(0, 4, 6), NONE);
        due.is("of(0, 4, 5): neither NOTES nor MISS", x.of(0, 4, 5), 6);
    }

    private void toldEnds() {
        due.about("promise 32, 0 to 3, 4 to 7, 10 to 37; OUTSIDE");
        RainCans x = Plots.busy();
        for (int day = 0; day < 28; day++) {
            x.wind(day, (day + 1) % 3);
        }
        int[] first = {3, 3, 4, 2, 8, 6, 7, 2};
        for (int what = -3; what <= 41; what++) {
            int want = what >= 0 && what <= 7 ? first[what] : what >= 10 && what <= 37 ? (what - 9) % 3 : -2;
            due.is("told(" + what + ")", x.told(what), want);
        }
        due.is("told(MIN)", x.told(MIN), -2);
        due.is("told(MAX)", x.told(MAX), -2);
        x = Plots.full();
        int[] full = {6, 20, 40, 6, 10, 0, 5, 1};
        for (int what = 0; what <= 7; what++) {
            due.is("told(" + what + ") of a full garden", x.told(what), full[what]);
        }
    }
}
