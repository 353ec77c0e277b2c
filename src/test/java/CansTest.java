/** Promises 1 to 12: cans, readings, notes. */
public final class CansTest {
    private final Due due = new Due();

    public static void main(String[] args) {
        CansTest test = new CansTest();
        test.newObject();
        test.can();
        test.miss();
        test.wind();
        test.raw();
        test.fixAndUndo();
        test.sayAndWipe();
        test.fault();
        test.note();
        test.notesThatAreNotTaken();
        test.readings();
        test.sums();
        test.fullGarden();
        test.due.end();
    }

    private void newObject() {
        due.about("promise 1");
        RainCans x = new RainCans();
        int[] told = {0, 0, 0, 0, 10, 50, 5, 1};
        for (int what = 0; what < told.length; what++) {
            due.is("told(" + what + ")", x.told(what), told[what]);
        }
        for (int day = 0; day < 28; day++) {
            due.is("told(" + (10 + day) + ")", x.told(10 + day), 0);
        }
        due.is("of(0, 0, 0)", x.of(0, 0, 0), -1);
        due.is("undo()", x.undo(), -5);
        due.is("blind()", x.blind(), 0);
        due.is("wipe()", x.wipe(), 0);
        due.is("fault()", x.fault(), 0);
        due.is("restore(0)", x.restore(0), -3);
        due.is("restore(1)", x.restore(1), -3);
        due.is("bound(27, 0, 20, 0)", x.bound(27, 0, 20, 0), 0);
        due.is("bound(27, 0, 20, 1)", x.bound(27, 0, 20, 1), 9999);
    }

    private void can() {
        due.about("promise 2");
        RainCans x = new RainCans();
        due.is("can(-1, 0)", x.can(-1, 0), -2);
        due.is("can(0, -1)", x.can(0, -1), -2);
        due.is("can(0, 21)", x.can(0, 21), -2);
        due.is("can(21, 0)", x.can(21, 0), -2);
        due.is("can(MIN, MAX)", x.can(Integer.MIN_VALUE, Integer.MAX_VALUE), -2);
        due.is("told(0)", x.told(0), 0);
        due.is("can(0, 0)", x.can(0, 0), 0);
        due.is("can(0, 0) at the same place", x.can(0, 0), 1);
        due.is("can(20, 20)", x.can(20, 20), 2);
        due.is("can(20, 0)", x.can(20, 0), 3);
        due.is("can(0, 20)", x.can(0, 20), 4);
        due.is("can(10, 10)", x.can(10, 10), 5);
        due.is("can(1, 1), a seventh", x.can(1, 1), -4);
        due.is("can(21, 1), OUTSIDE ahead of FULL", x.can(21, 1), -2);
        due.is("told(0)", x.told(0), 6);
    }

    private void miss() {
        due.about("promise 3");
        RainCans x = new RainCans();
        due.is("miss(0, 0, 1) without a CAN", x.miss(0, 0, 1), -1);
        x.can(0, 0);
        due.is("miss(0, 0, 9)", x.miss(0, 0, 9), 0);
        due.is("miss(0, 0, 3)", x.miss(0, 0, 3), 9);
        due.is("miss(0, 2, 1)", x.miss(0, 2, 1), 0);
        due.is("miss(0, 3, 1)", x.miss(0, 3, 1), -2);
        due.is("miss(0, -1, 1)", x.miss(0, -1, 1), -2);
        due.is("miss(0, 0, 10)", x.miss(0, 0, 10), -2);
        due.is("miss(0, 0, -1)", x.miss(0, 0, -1), -2);
        due.is("miss(1, 3, 1), UNKNOWN ahead of OUTSIDE", x.miss(1, 3, 1), -1);
        due.is("miss(-1, 0, 1)", x.miss(-1, 0, 1), -1);
        due.is("miss(0, 0, 0)", x.miss(0, 0, 0), 3);
        x.can(1, 1);
        due.is("miss(1, 2, 0), each CAN has its own", x.miss(1, 2, 0), 0);
        due.is("miss(0, 2, 0)", x.miss(0, 2, 0), 1);
        x.raw(0, 4, 30);
        x.miss(0, 2, 9);
        due.is("of(0, 4, 3) in WIND 0", x.of(0, 4, 3), 30);
        x.wind(4, 2);
        due.is("of(0, 4, 3) in WIND 2", x.of(0, 4, 3), 300);
        x.miss(0, 2, 3);
        due.is("of(0, 4, 3), cut", x.of(0, 4, 3), 42);
    }

    private void wind() {
        due.about("promise 4");
        RainCans x = new RainCans();
        due.is("wind(0, 2)", x.wind(0, 2), 0);
        due.is("wind(0, 1)", x.wind(0, 1), 2);
        due.is("wind(27, 1)", x.wind(27, 1), 0);
        due.is("wind(28, 1)", x.wind(28, 1), -1);
        due.is("wind(-1, 1)", x.wind(-1, 1), -1);
        due.is("wind(0, 3)", x.wind(0, 3), -2);
        due.is("wind(0, -1)", x.wind(0, -1), -2);
        due.is("wind(28, 3), UNKNOWN ahead of OUTSIDE", x.wind(28, 3), -1);
        due.is("told(10)", x.told(10), 1);
        due.is("told(37)", x.told(37), 1);
        due.is("told(11)", x.told(11), 0);
    }

    private void raw() {
        due.about("promise 5");
        RainCans x = new RainCans();
        due.is("raw(0, 0, 1) without a CAN", x.raw(0, 0, 1), -1);
        x.can(0, 0);
        due.is("raw(0, 0, 999)", x.raw(0, 0, 999), -6);
        due.is("raw(0, 0, 0)", x.raw(0, 0, 0), 999);
        due.is("raw(0, 0, -1)", x.raw(0, 0, -1), 0);
        due.is("raw(0, 0, 7)", x.raw(0, 0, 7), -6);
        due.is("raw(0, 0, 1000)", x.raw(0, 0, 1000), -2);
        due.is("raw(0, 0, -2)", x.raw(0, 0, -2), -2);
        due.is("raw(0, 28, 1000), UNKNOWN ahead of OUTSIDE", x.raw(0, 28, 1000), -1);
        due.is("raw(0, -1, 1)", x.raw(0, -1, 1), -1);
        due.is("raw(6, 0, 1)", x.raw(6, 0, 1), -1);
        due.is("of(0, 0, 0)", x.of(0, 0, 0), 7);
        due.is("of(0, 27, 0)", x.of(0, 27, 0), -6);
        x.fix(0, 0, 50);
        due.is("raw(0, 0, 8) under a FIX", x.raw(0, 0, 8), 7);
        due.is("of(0, 0, 0)", x.of(0, 0, 0), 8);
        due.is("of(0, 0, 1)", x.of(0, 0, 1), 50);
    }

    private void fixAndUndo() {
        due.about("promises 6 and 7");
        RainCans x = new RainCans();
        due.is("fix(0, 0, 1) without a CAN", x.fix(0, 0, 1), -1);
        x.can(0, 0);
        x.can(0, 1);
        x.raw(0, 3, 11);
        due.is("fix(0, 3, 12)", x.fix(0, 3, 12), 1);
        due.is("fix(1, 3, 99)", x.fix(1, 3, 99), 2);
        due.is("fix(0, 3, -1)", x.fix(0, 3, -1), 3);
        due.is("of(0, 3, 1)", x.of(0, 3, 1), -6);
        due.is("of(0, 3, 0)", x.of(0, 3, 0), 11);
        due.is("of(1, 3, 1)", x.of(1, 3, 1), 99);
        due.is("fix(0, 3, 1000)", x.fix(0, 3, 1000), -2);
        due.is("fix(0, 3, -2)", x.fix(0, 3, -2), -2);
        due.is("fix(0, 28, -2)", x.fix(0, 28, -2), -1);
        due.is("fix(2, 0, 1)", x.fix(2, 0, 1), -1);
        due.is("of(0, 3, 5)", x.of(0, 3, 5), -6);
        due.is("undo()", x.undo(), 2);
        due.is("of(0, 3, 5), VALUE follows", x.of(0, 3, 5), 12);
        due.is("of(0, 3, 1), the FIX before counts again", x.of(0, 3, 1), 12);
        due.is("undo()", x.undo(), 1);
        due.is("of(1, 3, 1)", x.of(1, 3, 1), -6);
        for (int n = 2; n <= 20; n++) {
            due.is("fix(1, 27, " + n + ")", x.fix(1, 27, n), n);
        }
        due.is("fix(1, 27, 21), the twenty-first", x.fix(1, 27, 21), -4);
        due.is("fix(1, 27, 1000), OUTSIDE ahead of FULL", x.fix(1, 27, 1000), -2);
        due.is("told(1)", x.told(1), 20);
        due.is("of(1, 27, 1)", x.of(1, 27, 1), 20);
        for (int n = 19; n >= 0; n--) {
            due.is("undo()", x.undo(), n);
        }
        due.is("undo() of none", x.undo(), -5);
        due.is("of(1, 27, 1)", x.of(1, 27, 1), -6);
        due.is("of(0, 3, 1)", x.of(0, 3, 1), 11);
    }

    private void sayAndWipe() {
        due.about("promises 8 and 9");
        RainCans x = new RainCans();
        due.is("say(32)", x.say(32), -2);
        due.is("say(127)", x.say(127), -2);
        due.is("say(33)", x.say(33), 1);
        due.is("say(126)", x.say(126), 2);
        due.is("told(2)", x.told(2), 2);
        due.is("wipe()", x.wipe(), 2);
        due.is("wipe()", x.wipe(), 0);
        for (int n = 1; n <= 40; n++) {
            due.is("say(64)", x.say(64), n);
        }
        due.is("say(64), the forty-first", x.say(64), -4);
        due.is("say(0), OUTSIDE ahead of FULL", x.say(0), -2);
        due.is("wipe()", x.wipe(), 40);
        due.is("told(2)", x.told(2), 0);
    }

    private void fault() {
        due.about("promise 10");
        String[] texts = {"", "x", "x1", "x12", "x123", "x1-", "x1-2", "x1-23", "x1-234", "x1;", "x1;l", "x1;l2",
            "y", "1", ";", "-", "x-", "x;", "xx", "x1x", "x1--", "x1-;", "x1-2-", "x1;;", "x99", "s5-4", "l0", "x5;x5",
            "X1", "x1-2;s3-4;l5", "x1-2;s3-4;5", "x1/", "x1:", "x:", "x12-34;"};
        int[] faults = {0, 1, -6, -6, 3, 3, -6, -6, 5, 3, 4, -6,
            0, 0, 0, 0, 1, 1, 1, 2, 3, 3, 4, 3, -6, -6, -6, -6,
            0, -6, 10, 2, 2, 1, 7};
        for (int n = 0; n < texts.length; n++) {
            RainCans x = new RainCans();
            Plots.say(x, texts[n]);
            due.is("fault() of " + texts[n], x.fault(), faults[n]);
            due.is("told(2), which stays", x.told(2), texts[n].length());
        }
        RainCans x = new RainCans();
        Plots.say(x, "x1;x2;x3;x4;x5;x6;x7;x8;x9;x10;x11;x123;");
        due.is("fault() of 40 signs", x.fault(), 38);
        x.wipe();
        Plots.say(x, "x1;x2;x3;x4;x5;x6;x7;x8;x9;x10;x11;x12;;");
        due.is("fault() of 40 signs", x.fault(), 39);
        x.wipe();
        Plots.say(x, "x01;x2;x3;x4;x5;x6;x7;x8;x9;x10;x11;x12;");
        due.is("fault() of 40 signs, when more must come", x.fault(), 40);
    }

    private void note() {
        due.about("promise 11");
        RainCans x = new RainCans();
        due.is("note(0) without a CAN", x.note(0), -1);
        x.can(0, 0);
        x.can(0, 1);
        x.raw(0, 5, 44);
        x.raw(1, 5, 45);
        due.is("note(0) of no signs", x.note(0), 0);
        Plots.say(x, "x5");
        due.is("note(2)", x.note(2), -1);
        due.is("note(-1)", x.note(-1), -1);
        due.is("told(2): the signs are still there", x.told(2), 2);
        due.is("note(0)", x.note(0), 1);
        due.is("told(2): they are gone", x.told(2), 0);
        due.is("of(0, 5, 2)", x.of(0, 5, 2), -6);
        due.is("of(1, 5, 2), another CAN", x.of(1, 5, 2), 45);
        due.is("note of x5-", Plots.note(x, 0, "x5-"), -5);
        due.is("told(2): a refused one leaves the signs", x.told(2), 3);
        due.is("of(0, 5, 2): and the NOTES", x.of(0, 5, 2), -6);
        due.is("note of x6", Plots.note(x, 0, "x6"), 1);
        due.is("of(0, 5, 2): the new ones count alone", x.of(0, 5, 2), 44);
        due.is("note of x05", Plots.note(x, 0, "x05"), 1);
        due.is("of(0, 5, 2)", x.of(0, 5, 2), -6);
        due.is("note of nothing", Plots.note(x, 0, ""), 0);
        due.is("of(0, 5, 2): none any more", x.of(0, 5, 2), 44);
        due.is("note of many", Plots.note(x, 0, "x0;x1;x2;x3;x4;x5;x6;x7;x8;x9;l10;s12-27"), 12);
    }

    private void notesThatAreNotTaken() {
        due.about("promise 11, what is taken");
        RainCans x = new RainCans();
        x.can(0, 0);
        String[] taken = {"x0", "x27", "l1", "l27", "s1", "s27", "x0-27", "l1-27", "s0-27", "s0-1", "s2;x0", "x4;l5",
            "s4-5;l6", "l5;s6-7", "s5;s7", "x9-10;x11", "l3;l4"};
        String[] not = {"x28", "x99", "x0-28", "l28", "s28", "s20-30", "l0", "l0-3", "s0", "x5-4", "s5-4", "l5-4",
            "x5-5", "s5-5", "x3;x3", "x3;l3", "x1-4;s4-6", "s5;x4", "s5;s4", "x4;s5", "s5;s6", "x0-27;l9", "x;", "q"};
        for (String text : taken) {
            int items = text.split(";").length;
            due.is("note of " + text, Plots.note(x, 0, text), items);
        }
        for (String text : not) {
            due.is("note of " + text, Plots.note(x, 0, text), -5);
        }
    }

    private void readings() {
        due.about("promise 12, READ");
        RainCans x = new RainCans();
        x.can(0, 0);
        for (int day = 0; day < 28; day++) {
            x.raw(0, day, 100 + day);
        }
        x.raw(0, 20, -1);
        x.fix(0, 9, 7);
        due.is("note", Plots.note(x, 0, "x3;l4;l8-9;s12-14;l15;l20;x22-23;l27"), 8);
        int[] read = {100, 101, 102, -6, -6, 105, 106, 108, 7, -6, 110, 111, -6, -6, 115, -6, 116, 117, 118, -6, -6, 121,
            -6, -6, 124, 125, 127, -6};
        for (int day = 0; day < 28; day++) {
            due.is("of(0, " + day + ", 2)", x.of(0, day, 2), read[day]);
            boolean ofSum = day >= 12 && day <= 14;
            due.is("of(0, " + day + ", 3)", x.of(0, day, 3), ofSum ? -6 : read[day]);
        }
        x.miss(0, 1, 5);
        x.wind(7, 1);
        x.wind(9, 2);
        due.is("of(0, 7, 3): the WIND of the DAY that it is READ on", x.of(0, 7, 3), 216);
        due.is("of(0, 8, 3)", x.of(0, 8, 3), 7);
        due.is("of(0, 0, 6)", x.of(0, 0, 6), -2);
        due.is("of(0, 0, -1)", x.of(0, 0, -1), -2);
        due.is("of(0, 28, 6)", x.of(0, 28, 6), -1);
        due.is("of(0, -1, 0)", x.of(0, -1, 0), -1);
        due.is("of(1, 0, 0)", x.of(1, 0, 0), -1);
    }

    private void sums() {
        due.about("promise 12, EXPECTED and VALUE");
        RainCans x = new RainCans();
        x.can(5, 5);
        x.can(10, 10);
        x.can(5, 6);
        x.raw(1, 0, 10);
        x.raw(2, 0, 21);
        x.raw(1, 1, 0);
        x.raw(2, 2, 40);
        due.is("of(0, 0, 4): the mean, cut, REACH 10 just reached", x.of(0, 0, 4), 15);
        x.set(0, 9);
        due.is("of(0, 0, 4): no farther than 9", x.of(0, 0, 4), 21);
        x.set(0, 10);
        due.is("of(0, 1, 4)", x.of(0, 1, 4), 0);
        due.is("of(0, 3, 4)", x.of(0, 3, 4), -6);
        x.miss(0, 2, 2);
        x.wind(3, 2);
        x.raw(0, 3, 80);
        due.is("of(0, 3, 5)", x.of(0, 3, 5), 100);
        due.is("note", Plots.note(x, 0, "s0-3"), 1);
        // 100 over EXPECTED of 15, 0, 40, nothing
        int[] parts = {27, 0, 72, 1};
        for (int day = 0; day < 4; day++) {
            due.is("of(0, " + day + ", 5)", x.of(0, day, 5), parts[day]);
            due.is("of(0, " + day + ", 3)", x.of(0, day, 3), -6);
        }
        due.is("of(2, 3, 4): a SUM is not PLAIN", x.of(2, 3, 4), -6);
        x.fix(0, 3, -1);
        due.is("of(0, 0, 5): the last DAY is not READ", x.of(0, 0, 5), -6);
        due.is("of(0, 3, 5)", x.of(0, 3, 5), -6);
        x.undo();
        x.set(0, 1);
        x.raw(2, 0, -1);
        x.raw(2, 2, -1);
        due.is("of(0, 0, 5): all to the last", x.of(0, 0, 5), 0);
        due.is("of(0, 3, 5)", x.of(0, 3, 5), 100);
        due.is("note", Plots.note(x, 0, "s1;l4"), 2);
        x.raw(0, 4, 8);
        due.is("of(0, 3, 5): from the DAY behind", x.of(0, 3, 5), 10);
        due.is("of(0, 1, 5): no SUM was READ", x.of(0, 1, 5), -6);
        due.is("note", Plots.note(x, 0, "s3;l4"), 2);
        due.is("of(0, 3, 2): a SUM read late", x.of(0, 3, 2), 8);
        due.is("of(0, 2, 5)", x.of(0, 2, 5), 0);
        due.is("of(0, 3, 5)", x.of(0, 3, 5), 10);
    }

    /** All rows are full to their ends: nothing may be looked for behind them. */
    private void fullGarden() {
        due.about("six CANS, all DAYS read");
        RainCans x = new RainCans();
        for (int can = 0; can < 6; can++) {
            x.can(can, 0);
            for (int day = 0; day < 28; day++) {
                x.raw(can, day, 10 * can + 5);
            }
        }
        for (int day = 0; day < 28; day++) {
            due.is("of(5, " + day + ", 2)", x.of(5, day, 2), 55);
            due.is("of(5, " + day + ", 4)", x.of(5, day, 4), 25);
            due.is("of(0, " + day + ", 4)", x.of(0, day, 4), 35);
            due.is("of(5, " + day + ", 5)", x.of(5, day, 5), 55);
        }
        due.is("note", Plots.note(x, 5, "s0-26;l27"), 2);
        due.is("of(5, 26, 2)", x.of(5, 26, 2), 55);
        due.is("of(5, 27, 2)", x.of(5, 27, 2), -6);
        due.is("of(5, 0, 5)", x.of(5, 0, 5), 2);
        due.is("of(5, 26, 5)", x.of(5, 26, 5), 3);
        due.is("of(5, 27, 5)", x.of(5, 27, 5), -6);
        due.is("claim(4, 27)", x.claim(4, 27), 1);
        due.is("week(5, 21, 1)", x.week(5, 21, 1), 0);
        due.is("breaks(4, 1)", x.breaks(4, 1), 0);
        due.is("chance(4, 1)", x.chance(4, 1), 99);
        due.is("seam(654321, -1)", x.seam(654321, -1), 1);
        due.is("seam(654321, 0)", x.seam(654321, 0), 27);
        due.is("fives(5, 1)", x.fives(5, 1), 26);
        due.is("forgets(5, 1)", x.forgets(5, 1), 0);
    }
}
