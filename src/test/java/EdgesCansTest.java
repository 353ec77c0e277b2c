/** Part 1 of the terms, promises 1 to 12: one test for each sentence that names an edge. */
public final class EdgesCansTest {
    private static final int NONE = -6;

    private final Due due = new Due();

    public static void main(String[] args) {
        EdgesCansTest test = new EdgesCansTest();
        test.newObject();
        test.sixCans();
        test.places();
        test.winds();
        test.misses();
        test.rawOfEveryCell();
        test.rawEnds();
        test.twentyFixes();
        test.fixOfNothing();
        test.lastFixCounts();
        test.takenBackOneByOne();
        test.far();
        test.fortySigns();
        test.codes();
        test.signsThatCanStand();
        test.moreMustCome();
        test.firstFault();
        test.faultIsOfFormAlone();
        test.daysOfNotes();
        test.spansRise();
        test.sumOfOneDay();
        test.lateOfDayZero();
        test.noDayTwice();
        test.noteOfAFault();
        test.noSigns();
        test.notesOfEachCan();
        test.howManyItems();
        test.readLate();
        test.readLateAtTheEnds();
        test.readOfDaysThatDoNotCount();
        test.readOfSums();
        test.plainEnds();
        test.plainWind();
        test.plainOfSums();
        test.ofNothing();
        test.lastCall();
        test.due.end();
    }

    private void newObject() {
        due.about("promise 1, No CANS, RADARS; the PAD is empty");
        RainCans x = new RainCans();
        due.is("told(0)", x.told(0), 0);
        due.is("told(3)", x.told(3), 0);
        due.is("told(2)", x.told(2), 0);
        due.is("told(1)", x.told(1), 0);
        due.is("blind()", x.blind(), 0);
        due.is("wipe()", x.wipe(), 0);
        due.is("can(5, 5): numbered from 0 on", x.can(5, 5), 0);
        due.is("radar: likewise", x.radar(0, 0, 0, 0, 0), 0);
        due.is("say(120): the first sign", x.say('x'), 1);
        RainCans other = new RainCans();
        due.is("told(0) of another object", other.told(0), 0);
        due.is("told(2) of another object", other.told(2), 0);
    }

    private void sixCans() {
        due.about("promise 2, CANS, 6 at most, numbered from 0 on");
        RainCans x = new RainCans();
        for (int n = 0; n < 6; n++) {
            due.is("told(0)", x.told(0), n);
            due.is("can(" + n + ", 7)", x.can(n, 7), n);
        }
        due.is("can(6, 7), a seventh", x.can(6, 7), -4);
        due.is("can(6, 7), again", x.can(6, 7), -4);
        due.is("told(0)", x.told(0), 6);
        due.is("raw(5, 0, 1) of the sixth", x.raw(5, 0, 1), NONE);
        due.is("raw(6, 0, 1)", x.raw(6, 0, 1), -1);
    }

    private void places() {
        due.about("promise 2, at a place x, y (0 to 20 each)");
        for (int v = -3; v <= 24; v++) {
            boolean inside = v >= 0 && v <= 20;
            due.is("can(" + v + ", 10)", new RainCans().can(v, 10), inside ? 0 : -2);
            due.is("can(10, " + v + ")", new RainCans().can(10, v), inside ? 0 : -2);
        }
        // where they stand, is where they hold what may have fallen
        RainCans x = Plots.at(0, 20, 20, 0);
        x.raw(0, 0, 500);
        x.raw(1, 1, 600);
        due.is("bound at 0, 20", x.bound(0, 0, 20, 0), 500);
        due.is("bound at 20, 0", x.bound(1, 20, 0, 0), 600);
        due.is("bound at 20, 0 on DAY 0: 40 FAR", x.bound(0, 20, 0, 0), 300);
    }

    private void winds() {
        due.about("promise 4, DAYS 0 to 27, each with a WIND (0 to 2; 0 at first)");
        RainCans x = new RainCans();
        for (int day = 0; day < 28; day++) {
            due.is("wind(" + day + ", ..), 0 at first", x.wind(day, day % 3), 0);
        }
        for (int day = 0; day < 28; day++) {
            due.is("told(" + (10 + day) + ")", x.told(10 + day), day % 3);
            due.is("wind(" + day + ", 3)", x.wind(day, 3), -2);
            due.is("wind(" + day + ", -1)", x.wind(day, -1), -2);
            due.is("wind(" + day + ", 2), which it was", x.wind(day, 2), day % 3);
        }
        due.is("wind(28, 0)", x.wind(28, 0), -1);
        due.is("wind(-1, 0)", x.wind(-1, 0), -1);
    }

    private void misses() {
        due.about("promise 3, MISS of a CAN by WIND: tenths (0 to 9; 0 at first)");
        RainCans x = Plots.at(0, 0, 0, 1, 0, 2, 0, 3, 0, 4, 0, 5);
        for (int can = 0; can < 6; can++) {
            for (int wind = 0; wind < 3; wind++) {
                due.is("miss(" + can + ", " + wind + ", ..)", x.miss(can, wind, (can + 3 * wind) % 10), 0);
            }
        }
        for (int can = 0; can < 6; can++) {
            for (int wind = 0; wind < 3; wind++) {
                due.is("miss(" + can + ", " + wind + ", 10)", x.miss(can, wind, 10), -2);
                due.is("miss(" + can + ", " + wind + ", 9)", x.miss(can, wind, 9), (can + 3 * wind) % 10);
                due.is("miss(" + can + ", " + wind + ", 0)", x.miss(can, wind, 0), 9);
            }
        }
    }

    private void rawOfEveryCell() {
        due.about("promise 5, RAW: what was read in a CAN on a DAY, or nothing (at first)");
        RainCans x = Plots.at(0, 0, 0, 1, 0, 2, 0, 3, 0, 4, 0, 5);
        for (int can = 0; can < 6; can++) {
            for (int day = 0; day < 28; day++) {
                due.is("raw(" + can + ", " + day + ", ..)", x.raw(can, day, 28 * can + day), NONE);
            }
        }
        for (int can = 0; can < 6; can++) {
            for (int day = 0; day < 28; day++) {
                due.is("of(" + can + ", " + day + ", 0)", x.of(can, day, 0), 28 * can + day);
            }
        }
    }

    private void rawEnds() {
        due.about("promise 5, RAW (0 to 999), -1: nothing");
        RainCans x = Plots.at(4, 4);
        due.is("raw(0, 0, 0)", x.raw(0, 0, 0), NONE);
        due.is("of(0, 0, 0): 0 is not nothing", x.of(0, 0, 0), 0);
        due.is("of(0, 0, 5)", x.of(0, 0, 5), 0);
        due.is("raw(0, 0, 999)", x.raw(0, 0, 999), 0);
        due.is("raw(0, 0, 1000)", x.raw(0, 0, 1000), -2);
        due.is("raw(0, 0, -2)", x.raw(0, 0, -2), -2);
        due.is("raw(0, 0, -1)", x.raw(0, 0, -1), 999);
        for (int what = 0; what <= 5; what++) {
            due.is("of(0, 0, " + what + "): nothing again", x.of(0, 0, what), NONE);
        }
        due.is("raw(0, 0, -1) of nothing", x.raw(0, 0, -1), NONE);
        due.is("raw(0, 27, 999)", x.raw(0, 27, 999), NONE);
        due.is("of(0, 27, 0)", x.of(0, 27, 0), 999);
    }

    private void twentyFixes() {
        due.about("promises 6 and 7, FIXES, 20 at most");
        RainCans x = Plots.at(1, 1, 2, 2);
        due.is("told(1)", x.told(1), 0);
        due.is("undo(): there is none", x.undo(), -5);
        for (int n = 0; n < 20; n++) {
            due.is("fix, one more", x.fix(n % 2, n, n), n + 1);
        }
        due.is("fix, the twenty-first", x.fix(0, 0, 500), -4);
        due.is("fix, the twenty-first, of a CAN and DAY without one", x.fix(1, 27, 500), -4);
        due.is("fix of nothing, too", x.fix(1, 27, -1), -4);
        due.is("told(1)", x.told(1), 20);
        due.is("of(0, 0, 1)", x.of(0, 0, 1), 0);
        due.is("of(1, 19, 1)", x.of(1, 19, 1), 19);
        due.is("undo()", x.undo(), 19);
        due.is("of(1, 19, 1)", x.of(1, 19, 1), NONE);
        due.is("fix(1, 27, 999): there is room again", x.fix(1, 27, 999), 20);
        due.is("of(1, 27, 1)", x.of(1, 27, 1), 999);
        due.is("fix, full again", x.fix(1, 27, 999), -4);
        for (int left = 19; left >= 0; left--) {
            due.is("undo()", x.undo(), left);
        }
        due.is("undo(): there is none", x.undo(), -5);
        due.is("undo(): again", x.undo(), -5);
        due.is("fix(0, 0, 0) of none", x.fix(0, 0, 0), 1);
    }

    private void fixOfNothing() {
        due.about("promise 6, a number (or nothing) that counts for RAW");
        RainCans x = Plots.at(1, 1);
        x.raw(0, 0, 50);
        due.is("fix(0, 0, -1)", x.fix(0, 0, -1), 1);
        due.is("of(0, 0, 0): RAW stays", x.of(0, 0, 0), 50);
        for (int what = 1; what <= 5; what++) {
            due.is("of(0, 0, " + what + ")", x.of(0, 0, what), NONE);
        }
        due.is("fix(0, 1, 0) where nothing was RAW", x.fix(0, 1, 0), 2);
        due.is("of(0, 1, 0)", x.of(0, 1, 0), NONE);
        due.is("of(0, 1, 1)", x.of(0, 1, 1), 0);
        due.is("of(0, 1, 5)", x.of(0, 1, 5), 0);
        due.is("fix(0, 27, 999)", x.fix(0, 27, 999), 3);
        due.is("of(0, 27, 5)", x.of(0, 27, 5), 999);
        due.is("fix(0, 27, 1000)", x.fix(0, 27, 1000), -2);
        due.is("fix(0, 27, -2)", x.fix(0, 27, -2), -2);
        due.is("told(1)", x.told(1), 3);
    }

    private void lastFixCounts() {
        due.about("promise 6, the last one counts");
        RainCans x = Plots.at(1, 1, 2, 2);
        x.fix(0, 4, 10);
        x.fix(1, 4, 20);
        x.fix(0, 5, 30);
        x.fix(0, 4, 40);
        due.is("of(0, 4, 1)", x.of(0, 4, 1), 40);
        due.is("of(1, 4, 1): another CAN", x.of(1, 4, 1), 20);
        due.is("of(0, 5, 1): another DAY", x.of(0, 5, 1), 30);
        due.is("of(1, 5, 1)", x.of(1, 5, 1), NONE);
        due.is("raw(0, 4, 3): RAW behind it does not count", x.raw(0, 4, 3), NONE);
        due.is("of(0, 4, 1)", x.of(0, 4, 1), 40);
        due.is("of(0, 4, 0)", x.of(0, 4, 0), 3);
    }

    private void takenBackOneByOne() {
        due.about("promise 7, they are taken back one by one");
        RainCans x = Plots.at(1, 1);
        x.raw(0, 4, 3);
        x.fix(0, 4, 10);
        x.fix(0, 5, 30);
        x.fix(0, 4, -1);
        x.fix(0, 4, 40);
        due.is("undo()", x.undo(), 3);
        due.is("of(0, 4, 1)", x.of(0, 4, 1), NONE);
        due.is("undo()", x.undo(), 2);
        due.is("of(0, 4, 1)", x.of(0, 4, 1), 10);
        due.is("of(0, 5, 1)", x.of(0, 5, 1), 30);
        due.is("undo()", x.undo(), 1);
        due.is("of(0, 5, 1)", x.of(0, 5, 1), NONE);
        due.is("of(0, 4, 1)", x.of(0, 4, 1), 10);
        due.is("undo()", x.undo(), 0);
        due.is("of(0, 4, 1): RAW", x.of(0, 4, 1), 3);
        due.is("undo()", x.undo(), -5);
        due.is("of(0, 4, 1)", x.of(0, 4, 1), 3);
    }

    private void far() {
        due.about("FAR of two places: the difference of x and that of y together");
        RainCans x = Plots.at(10, 10);
        x.set(2, 1);
        x.raw(0, 0, 100);
        int[][] places = {{10, 10, 0}, {0, 0, 20}, {20, 20, 20}, {0, 20, 20}, {20, 0, 20}, {11, 10, 1}, {9, 10, 1},
            {10, 9, 1}, {10, 11, 1}, {13, 6, 7}, {7, 14, 7}};
        for (int[] p : places) {
            due.is("bound at " + p[0] + ", " + p[1], x.bound(0, p[0], p[1], 0), 100 - p[2]);
        }
    }

    private void fortySigns() {
        due.about("promises 8 and 9, a text of up to 40 signs; none at first");
        RainCans x = new RainCans();
        for (int n = 0; n < 40; n++) {
            due.is("told(2)", x.told(2), n);
            due.is("say(33)", x.say(33), n + 1);
        }
        due.is("say(33), the forty-first", x.say(33), -4);
        due.is("told(2)", x.told(2), 40);
        due.is("wipe()", x.wipe(), 40);
        due.is("told(2)", x.told(2), 0);
        due.is("wipe() of none", x.wipe(), 0);
        due.is("say(33): there is room again", x.say(33), 1);
        due.is("wipe() of one", x.wipe(), 1);
        x = Plots.at(0, 0);
        String text = "x00;x01;x02;x03;x04;x05;x06;x7;x8;l09-10";
        Plots.say(x, text);
        due.is("signs", x.told(2), 40);
        due.is("fault() of 40 signs", x.fault(), NONE);
        due.is("note(0) of 40 signs", x.note(0), 10);
        due.is("told(2)", x.told(2), 0);
    }

    private void codes() {
        due.about("promise 8, codes 33 to 126");
        for (int sign = -3; sign <= 260; sign++) {
            boolean taken = sign >= 33 && sign <= 126;
            due.is("say(" + sign + ")", new RainCans().say(sign), taken ? 1 : -2);
        }
        due.is("say(MAX)", new RainCans().say(Integer.MAX_VALUE), -2);
        due.is("say(MIN)", new RainCans().say(Integer.MIN_VALUE), -2);
        // 120 and 65536: as a char it would be an x
        due.is("say(65656)", new RainCans().say(65656), -2);
    }

    private void signsThatCanStand() {
        due.about("promise 10, the place of the first sign that can not stand there");
        String digits = "0123456789";
        String[][] behind = {{"", "xls"}, {"x", digits}, {"l", digits}, {"s", digits}, {"x1", digits + "-;"},
            {"x12", "-;"}, {"x1-", digits}, {"x12-", digits}, {"x1-2", digits + ";"}, {"x1-23", ";"}, {"x12-3", digits + ";"},
            {"x1;", "xls"}, {"x1-23;", "xls"}, {"x1;s", digits}, {"x1;s4", digits + "-;"}, {"x1;s4-", digits}};
        for (String[] b : behind) {
            for (char sign = 33; sign <= 126; sign++) {
                String text = b[0] + sign;
                boolean stands = b[1].indexOf(sign) >= 0;
                boolean more = !Character.isDigit(sign);
                RainCans x = new RainCans();
                Plots.say(x, text);
                due.is("fault() of " + text, x.fault(), !stands ? b[0].length() : more ? text.length() : NONE);
            }
        }
    }

    private void moreMustCome() {
        due.about("promise 10, the number of signs, if more must come");
        RainCans x = new RainCans();
        due.is("fault() of no signs", x.fault(), 0);
        String text = "x01;x2;x3;x4;x5;x6;x7;x8;x9;x10;x11;x12;";
        for (int n = 0; n < 40; n++) {
            x.say(text.charAt(n));
            boolean whole = Character.isDigit(text.charAt(n));
            due.is("fault() of " + text.substring(0, n + 1), x.fault(), whole ? NONE : n + 1);
        }
        due.is("fault() of 40 signs: more must come, though there is no room", x.fault(), 40);
        x.wipe();
        due.is("fault() of signs that are wiped", x.fault(), 0);
    }

    private void firstFault() {
        due.about("promise 10, the first sign that can not stand there");
        String[] texts = {"q", "qq", "1x", "xq1", "x1q;;", "x123-", "x1-q-", "x1;;q", "x1;x1;q;;", "x1", "-x", ";x1"};
        int[] faults = {0, 0, 0, 1, 2, 3, 3, 3, 6, NONE, 0, 0};
        for (int n = 0; n < texts.length; n++) {
            RainCans x = new RainCans();
            Plots.say(x, texts[n]);
            due.is("fault() of " + texts[n], x.fault(), faults[n]);
            x.say('x');
            int behind = faults[n] == NONE ? 2 : faults[n];
            due.is("fault() of " + texts[n] + "x: the first one stays the first", x.fault(), behind);
        }
    }

    private void faultIsOfFormAlone() {
        due.about("promise 10, NONE: signs that stand, whether they are taken or not");
        String[] texts = {"x28", "x99-00", "s0", "l0", "l00", "x5-5", "x5-4", "x1;x1", "s1;x0"};
        for (String text : texts) {
            RainCans x = Plots.at(0, 0);
            Plots.say(x, text);
            due.is("fault() of " + text, x.fault(), NONE);
            due.is("note(0) of " + text, x.note(0), -5);
            due.is("fault() of " + text + " still", x.fault(), NONE);
            due.is("told(2): the signs are not gone", x.told(2), text.length());
        }
    }

    private void taken(String... texts) {
        for (String text : texts) {
            due.is("note of " + text, Plots.note(Plots.at(0, 0), 0, text), text.split(";").length);
        }
    }

    private void notTaken(String... texts) {
        for (String text : texts) {
            due.is("note of " + text, Plots.note(Plots.at(0, 0), 0, text), -5);
        }
    }

    private void daysOfNotes() {
        due.about("promise 11, taken, if all DAYS are 0 to 27");
        taken("x0", "x00", "x27", "x0-27", "x00-27", "x26-27", "l27", "l26-27", "s27", "s26-27", "s0-27", "l1-27", "x5;x27");
        notTaken("x28", "x99", "x0-28", "x27-28", "x28-29", "x98-99", "l28", "l27-28", "s28", "s27-28", "s0-28", "x5;x28",
            "x28;x5");
    }

    private void spansRise() {
        due.about("promise 11, SPANS rise");
        taken("x4-5", "x0-1", "l4-5", "l1-2", "s4-5", "s0-1", "x9-10", "x09-10", "s9-10");
        notTaken("x5-5", "x5-4", "x0-0", "x1-0", "l5-5", "l5-4", "s5-5", "s5-4", "s1-0", "x10-9", "x27-27", "x5-05", "x1;x5-4");
    }

    private void sumOfOneDay() {
        due.about("promise 11, s of one DAY is from the DAY ahead of it (so not of DAY 0)");
        taken("s1", "s01", "s27", "s0-1");
        notTaken("s0", "s00", "s28", "x4;s0");
        RainCans x = Plots.at(0, 0);
        Plots.read(x, 0, 0, 10, 20, 30, 40);
        Plots.note(x, 0, "s1");
        int[] read = {NONE, 20, 30, 40};
        int[] value = {0, 20, 30, 40};
        for (int day = 0; day < 4; day++) {
            due.is("of(0, " + day + ", 2)", x.of(0, day, 2), read[day]);
            due.is("of(0, " + day + ", 5)", x.of(0, day, 5), value[day]);
        }
        Plots.note(x, 0, "s2-3");
        due.is("of(0, 1, 2): a SPAN begins where it is told", x.of(0, 1, 2), 20);
        due.is("of(0, 2, 2)", x.of(0, 2, 2), NONE);
    }

    private void lateOfDayZero() {
        due.about("promise 11, l is not of DAY 0 either");
        taken("l1", "l01", "l1-2", "l27", "x0;l1");
        notTaken("l0", "l00", "l0-1", "l0-27", "x5;l0");
        taken("x0", "x0-1", "s0-1");
    }

    private void noDayTwice() {
        due.about("promise 11, no DAY in two ITEMS (s: all its DAYS)");
        taken("x1;x2", "x1-3;x4", "x4;x1-3", "s2;x3", "s2;x0", "s2;l3", "s5;s7", "s1-2;s4", "s1-2;s3-4", "l4;l5", "l5;x4",
            "x0-13;l14-26;x27", "x27;s26");
        notTaken("x1;x1", "x1;x01", "x1;l1", "l1;s1", "x1-3;x3", "x3;x1-3", "x1-3;l3-5", "x2;x1-3", "x1-3;x2", "x1;s2",
            "s2;x1", "s2;x2", "s5;s6", "s6;s5", "s5;s5", "s1-2;s3", "s3;s1-2", "l2;s3", "s3-5;x4", "x4;s3-5", "x0-27;x0",
            "x0-27;x27", "x1;x2;x3;x1");
    }

    private void noteOfAFault() {
        due.about("promise 11, NO: there is a FAULT");
        String[] texts = {"x", "l", "s", "1", ";", "-", "q", "x1;", "x1-", "xx", "x1x", "x123", "x1;;x2", "x1-2-3", ";x1",
            "x1;q"};
        for (String text : texts) {
            RainCans x = Plots.at(0, 0);
            x.raw(0, 0, 9);
            x.raw(0, 1, 8);
            due.is("note of " + text, Plots.note(x, 0, text), -5);
            due.is("told(2): the signs are not gone", x.told(2), text.length());
            due.is("of(0, 0, 2): it has no NOTES by it", x.of(0, 0, 2), 9);
            due.is("of(0, 1, 2)", x.of(0, 1, 2), 8);
        }
    }

    private void noSigns() {
        due.about("promise 11, no signs: it has none any more");
        RainCans x = Plots.at(0, 0, 0, 1);
        Plots.read(x, 0, 0, 10, 20, 30);
        due.is("note(0) of no signs, where there are no NOTES", x.note(0), 0);
        Plots.note(x, 0, "x1");
        Plots.note(x, 1, "x1");
        x.raw(1, 1, 44);
        due.is("of(0, 1, 2)", x.of(0, 1, 2), NONE);
        due.is("note(0) of no signs", x.note(0), 0);
        due.is("of(0, 1, 2)", x.of(0, 1, 2), 20);
        due.is("of(1, 1, 2): the other CAN has its own still", x.of(1, 1, 2), NONE);
        Plots.note(x, 0, "s1-2");
        due.is("note(0) of no signs", x.note(0), 0);
        due.is("of(0, 1, 3)", x.of(0, 1, 3), 20);
        due.is("of(0, 2, 3)", x.of(0, 2, 3), 30);
        due.is("note(2) of no signs", x.note(2), -1);
    }

    private void notesOfEachCan() {
        due.about("promise 11, The signs are a CAN's NOTES (they are gone then)");
        RainCans x = Plots.at(0, 0, 0, 1, 0, 2, 0, 3, 0, 4, 0, 5);
        for (int can = 0; can < 6; can++) {
            Plots.read(x, can, 0, 1, 2, 3, 4, 5, 6);
        }
        for (int can = 0; can < 6; can++) {
            Plots.say(x, "x");
            x.say('0' + can);
            due.is("note(" + can + ")", x.note(can), 1);
            due.is("told(2): they are gone", x.told(2), 0);
            due.is("fault(): they are gone", x.fault(), 0);
        }
        for (int can = 0; can < 6; can++) {
            for (int day = 0; day < 6; day++) {
                due.is("of(" + can + ", " + day + ", 2)", x.of(can, day, 2), day == can ? NONE : day + 1);
            }
        }
        Plots.note(x, 3, "x5");
        due.is("of(3, 3, 2): the old NOTES do not count any more", x.of(3, 3, 2), 4);
        due.is("of(3, 5, 2)", x.of(3, 5, 2), NONE);
    }

    private void howManyItems() {
        due.about("promise 11, how many ITEMS");
        RainCans x = Plots.at(0, 0);
        due.is("one", Plots.note(x, 0, "x1"), 1);
        due.is("one of many DAYS", Plots.note(x, 0, "s0-27"), 1);
        due.is("two", Plots.note(x, 0, "x1;l2"), 2);
        due.is("twelve", Plots.note(x, 0, "x0;x1;x2;x3;x4;x5;x6;x7;x8;x9;x10;x11"), 12);
        due.is("none", Plots.note(x, 0, ""), 0);
    }

    private void readLate() {
        due.about("promise 12, READ: if the next DAY is one of l, what they tell of that one; else, if of l itself, nothing");
        RainCans x = Plots.at(0, 0);
        Plots.read(x, 0, 3, 13, 14, 15, 16, 17);
        Plots.note(x, 0, "l5-6");
        int[] read = {13, 15, 16, NONE, 17};
        for (int n = 0; n < 5; n++) {
            due.is("of(0, " + (3 + n) + ", 2)", x.of(0, 3 + n, 2), read[n]);
        }
        due.is("of(0, 5, 1): RAW and FIXES are where they were", x.of(0, 5, 1), 15);
        x.fix(0, 5, -1);
        due.is("of(0, 4, 2): nothing was read on the DAY of l", x.of(0, 4, 2), NONE);
        x.fix(0, 5, 500);
        due.is("of(0, 4, 2): FIXES of the DAY of l count", x.of(0, 4, 2), 500);
        x.fix(0, 4, 600);
        due.is("of(0, 4, 2): those of the DAY ahead do not", x.of(0, 4, 2), 500);
        Plots.note(x, 0, "l5;l6");
        due.is("of(0, 5, 2): two ITEMS as one SPAN", x.of(0, 5, 2), 16);
        due.is("of(0, 6, 2)", x.of(0, 6, 2), NONE);
    }

    private void readLateAtTheEnds() {
        due.about("promise 12, READ on the first and the last DAY");
        RainCans x = Plots.at(0, 0, 20, 20);
        Plots.read(x, 0, 0, 10, 11);
        Plots.read(x, 0, 26, 36, 37);
        Plots.read(x, 1, 0, 99, 98);
        due.is("of(0, 27, 2): there is no next DAY", x.of(0, 27, 2), 37);
        due.is("note", Plots.note(x, 0, "l1;l27"), 2);
        due.is("of(0, 0, 2)", x.of(0, 0, 2), 11);
        due.is("of(0, 1, 2)", x.of(0, 1, 2), NONE);
        due.is("of(0, 26, 2)", x.of(0, 26, 2), 37);
        due.is("of(0, 27, 2)", x.of(0, 27, 2), NONE);
        due.is("note", Plots.note(x, 0, "l1-27"), 1);
        due.is("of(0, 0, 2)", x.of(0, 0, 2), 11);
        due.is("of(0, 25, 2)", x.of(0, 25, 2), 36);
        due.is("of(0, 26, 2)", x.of(0, 26, 2), 37);
        due.is("of(0, 27, 2)", x.of(0, 27, 2), NONE);
        due.is("note of the next CAN", Plots.note(x, 1, "l1"), 1);
        x.note(0);
        due.is("of(0, 27, 2): another CAN's DAY 0 is not the next DAY", x.of(0, 27, 2), 37);
        due.is("of(1, 0, 2)", x.of(1, 0, 2), 98);
    }

    private void readOfDaysThatDoNotCount() {
        due.about("promise 12, READ: On DAYS of x nothing (also if the next DAY is one of l)");
        RainCans x = Plots.at(0, 0);
        Plots.read(x, 0, 0, 10, 11, 12, 13);
        Plots.read(x, 0, 26, 36, 37);
        Plots.note(x, 0, "x0;x27");
        due.is("of(0, 0, 2)", x.of(0, 0, 2), NONE);
        due.is("of(0, 1, 2)", x.of(0, 1, 2), 11);
        due.is("of(0, 26, 2)", x.of(0, 26, 2), 36);
        due.is("of(0, 27, 2)", x.of(0, 27, 2), NONE);
        Plots.note(x, 0, "x1;l2");
        due.is("of(0, 0, 2)", x.of(0, 0, 2), 10);
        due.is("of(0, 1, 2): the next DAY is one of l", x.of(0, 1, 2), NONE);
        due.is("of(0, 2, 2)", x.of(0, 2, 2), NONE);
        due.is("of(0, 3, 2)", x.of(0, 3, 2), 13);
        x.fix(0, 1, 5);
        due.is("of(0, 1, 2): nor do FIXES count", x.of(0, 1, 2), NONE);
        due.is("of(0, 1, 1)", x.of(0, 1, 1), 5);
        Plots.note(x, 0, "l1;x2");
        due.is("of(0, 1, 2): x behind l", x.of(0, 1, 2), NONE);
        due.is("of(0, 0, 2)", x.of(0, 0, 2), 5);
    }

    private void readOfSums() {
        due.about("promise 12, SUM: on the last DAY of an s READ holds all its DAYS; on the others of it nothing is READ");
        RainCans x = Plots.at(0, 0);
        for (int day = 0; day < 28; day++) {
            x.raw(0, day, 10 + day);
        }
        Plots.note(x, 0, "s0-2;s4;s25-27");
        for (int day = 0; day < 28; day++) {
            boolean held = day <= 1 || day == 3 || day == 25 || day == 26;
            due.is("of(0, " + day + ", 2)", x.of(0, day, 2), held ? NONE : 10 + day);
        }
        Plots.note(x, 0, "s4-5;l6");
        due.is("of(0, 5, 2): the last DAY's, when the next one is of l", x.of(0, 5, 2), 16);
        due.is("of(0, 4, 2)", x.of(0, 4, 2), NONE);
        due.is("of(0, 6, 2)", x.of(0, 6, 2), NONE);
        Plots.note(x, 0, "l6;s7-8");
        due.is("of(0, 6, 2): the next DAY is one of s", x.of(0, 6, 2), NONE);
        due.is("of(0, 5, 2)", x.of(0, 5, 2), 16);
        due.is("of(0, 8, 2)", x.of(0, 8, 2), 18);
        Plots.note(x, 0, "s0-27");
        due.is("of(0, 26, 2)", x.of(0, 26, 2), NONE);
        due.is("of(0, 27, 2)", x.of(0, 27, 2), 37);
    }

    private void plainEnds() {
        due.about("promise 12, PLAIN on a DAY: READ times 10 by 10 less MISS, cut");
        RainCans x = Plots.at(0, 0);
        x.raw(0, 0, 999);
        x.raw(0, 1, 0);
        x.raw(0, 2, 1);
        int[] plain = {999, 1110, 1248, 1427, 1665, 1998, 2497, 3330, 4995, 9990};
        int[] ofOne = {1, 1, 1, 1, 1, 2, 2, 3, 5, 10};
        for (int tenths = 0; tenths <= 9; tenths++) {
            x.miss(0, 0, tenths);
            due.is("of(0, 0, 3) by MISS " + tenths, x.of(0, 0, 3), plain[tenths]);
            due.is("of(0, 1, 3) by MISS " + tenths, x.of(0, 1, 3), 0);
            due.is("of(0, 2, 3) by MISS " + tenths, x.of(0, 2, 3), ofOne[tenths]);
            due.is("of(0, 3, 3) of nothing", x.of(0, 3, 3), NONE);
        }
    }

    private void plainWind() {
        due.about("promise 12, MISS (that DAY's WIND)");
        RainCans x = Plots.at(0, 0, 1, 1);
        x.miss(0, 0, 1);
        x.miss(0, 1, 5);
        x.miss(0, 2, 8);
        for (int day = 0; day < 28; day++) {
            x.wind(day, day % 3);
            x.raw(0, day, 90);
            x.raw(1, day, 90);
        }
        int[] plain = {100, 180, 450};
        for (int day = 0; day < 28; day++) {
            due.is("of(0, " + day + ", 3)", x.of(0, day, 3), plain[day % 3]);
            due.is("of(1, " + day + ", 3): that CAN's", x.of(1, day, 3), 90);
        }
        Plots.note(x, 0, "l8");
        due.is("of(0, 7, 3): the DAY's that it is READ on, not that of l", x.of(0, 7, 3), 180);
    }

    private void plainOfSums() {
        due.about("promise 12, PLAIN: nothing on DAYS of an s");
        RainCans x = Plots.at(0, 0, 0, 1);
        for (int day = 0; day < 28; day++) {
            x.raw(0, day, 10 + day);
        }
        Plots.note(x, 0, "s0-1;s5;s26-27");
        for (int day = 0; day < 28; day++) {
            boolean ofSum = day <= 1 || day == 4 || day == 5 || day >= 26;
            due.is("of(0, " + day + ", 3)", x.of(0, day, 3), ofSum ? NONE : 10 + day);
            due.is("of(1, " + day + ", 4): the neighbour's", x.of(1, day, 4), ofSum ? NONE : 10 + day);
        }
    }

    private void ofNothing() {
        due.about("promise 12, NONE: nothing; what 0 to 5");
        RainCans x = Plots.at(0, 0);
        for (int what = -2; what <= 7; what++) {
            due.is("of(0, 0, " + what + ")", x.of(0, 0, what), what >= 0 && what <= 5 ? NONE : -2);
            due.is("of(0, 27, " + what + ")", x.of(0, 27, what), what >= 0 && what <= 5 ? NONE : -2);
            due.is("of(1, 0, " + what + ")", x.of(1, 0, what), -1);
            due.is("of(0, 28, " + what + ")", x.of(0, 28, what), -1);
        }
    }

    private void lastCall() {
        due.about("An object is used for at most 512 calls: the last of them is answered, too");
        RainCans x = Plots.at(0, 0);
        for (int n = 1; n < 511; n++) {
            due.is("call " + (n + 1), x.raw(0, n % 28, n), n <= 28 ? NONE : n - 28);
        }
        due.is("call 512", x.of(0, 6, 5), 510);
    }
}
