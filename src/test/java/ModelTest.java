import java.util.Random;

/** Long mixed runs of calls, the class beside the plain model: every answer must be the same. */
public final class ModelTest {
    /** Of an object's 512 calls the last ones are left, as one turn of a run may take some sixty. */
    private static final int RUNS = 3000, CALLS = 512, TURN = 64;
    private static final String[] ITEMS = {"x3", "x10-14", "l5", "l6-8", "s9", "s11-13", "s14-15", "x0", "l27", "s27",
        "s0-6", "l1", "s1", "x27", "l2-3", "s20-26", "x5-5", "s4-3", "x28", "l0", "s0", "s0-1", "l16"};
    private static final int[] WILD = {Integer.MIN_VALUE, Integer.MAX_VALUE, -2, -3, -1, 1000, 28, 6, 21, 10000, 7};

    private final Due due = new Due();
    private Random random;
    private RainCans x;
    private PlainModel m;
    /** How seldom a number is a wild one in this run. */
    private int tame;

    public static void main(String[] args) {
        ModelTest test = new ModelTest();
        for (int run = 0; run < RUNS && test.due.wrong() < 20; run++) {
            test.run(run);
        }
        test.due.end();
    }

    private void run(int run) {
        random = new Random(run * 7919L + 1);
        x = new RainCans();
        m = new PlainModel();
        tame = run % 3 == 0 ? 15 : 400;
        int before = due.asked();
        setUp(run);
        due.about("run " + run);
        while (due.asked() - before + TURN <= CALLS && due.wrong() < 20) {
            if (random.nextInt(3) == 0) {
                change();
            } else {
                ask();
            }
        }
    }

    /** A garden in which most calls have something to tell. */
    private void setUp(int run) {
        int cans = run % 7;
        int close = 1 + random.nextInt(20);
        for (int c = 0; c < cans; c++) {
            int atX = random.nextInt(close + 1);
            int atY = random.nextInt(close + 1);
            due.is("can", x.can(atX, atY), m.can(atX, atY));
            int level = random.nextInt(3);
            for (int d = 0; d < 28; d++) {
                if (random.nextInt(5) > 0) {
                    int v = reading(level);
                    due.is("raw", x.raw(c, d, v), m.raw(c, d, v));
                }
            }
        }
    }

    private int reading(int level) {
        switch (level) {
            case 0:
                return random.nextInt(3) == 0 ? 0 : random.nextInt(30);
            case 1:
                return 5 * random.nextInt(12);
            default:
                return random.nextInt(4) == 0 ? random.nextInt(1000) : random.nextInt(100);
        }
    }

    private int num(int least, int most) {
        if (random.nextInt(tame) == 0) {
            return random.nextBoolean() ? most + 1 : random.nextBoolean() ? least - 1 : WILD[random.nextInt(WILD.length)];
        }
        return least + random.nextInt(most - least + 1);
    }

    private int aCan() {
        int cans = m.told(0);
        return num(0, cans == 0 ? 0 : cans - 1);
    }

    private void change() {
        int a = aCan();
        int d = num(0, 27);
        switch (random.nextInt(13)) {
            case 0: {
                int v = num(0, 20);
                int w = num(0, 20);
                due.is("can(" + v + ", " + w + ")", x.can(v, w), m.can(v, w));
                break;
            }
            case 1: {
                int v = num(0, 2);
                int w = num(0, 9);
                due.is("miss(" + a + ", " + v + ", " + w + ")", x.miss(a, v, w), m.miss(a, v, w));
                break;
            }
            case 2: {
                int v = num(0, 2);
                due.is("wind(" + d + ", " + v + ")", x.wind(d, v), m.wind(d, v));
                break;
            }
            case 3:
            case 4: {
                int v = random.nextInt(4) == 0 ? num(-1, 999) : num(-1, 60);
                due.is("raw(" + a + ", " + d + ", " + v + ")", x.raw(a, d, v), m.raw(a, d, v));
                break;
            }
            case 5: {
                int v = random.nextInt(4) == 0 ? num(-1, 999) : num(-1, 60);
                due.is("fix(" + a + ", " + d + ", " + v + ")", x.fix(a, d, v), m.fix(a, d, v));
                break;
            }
            case 6:
                due.is("undo()", x.undo(), m.undo());
                break;
            case 7:
            case 8:
                noteSome(a);
                break;
            case 9: {
                int which = num(0, 3);
                int v = num(0, new int[] {40, 60, 99, 9}[Math.max(0, Math.min(3, which))]);
                due.is("set(" + which + ", " + v + ")", x.set(which, v), m.set(which, v));
                break;
            }
            case 10: {
                int v = num(0, 20);
                int w = num(0, 20);
                int least = num(0, 200);
                int most = random.nextInt(3) == 0 ? num(0, 999) : num(200, 999);
                due.is("radar(" + d + ", " + v + ", " + w + ", " + least + ", " + most + ")",
                    x.radar(d, v, w, least, most), m.radar(d, v, w, least, most));
                break;
            }
            case 11:
                if (random.nextInt(3) == 0) {
                    due.is("blind()", x.blind(), m.blind());
                }
                break;
            default:
                images();
        }
    }

    private void images() {
        int n = num(0, 1);
        if (random.nextBoolean()) {
            due.is("image(" + n + ")", x.image(n), m.image(n));
        } else {
            due.is("restore(" + n + ")", x.restore(n), m.restore(n));
        }
    }

    private void noteSome(int can) {
        StringBuilder text = new StringBuilder();
        int items = random.nextInt(5);
        for (int n = 0; n < items; n++) {
            text.append(n == 0 ? "" : ";").append(ITEMS[random.nextInt(ITEMS.length)]);
        }
        if (text.length() > 0 && random.nextInt(6) == 0) {
            String marks = "xls0189-;a~!";
            text.setCharAt(random.nextInt(text.length()), marks.charAt(random.nextInt(marks.length())));
        }
        if (random.nextBoolean()) {
            due.is("wipe()", x.wipe(), m.wipe());
        }
        for (int n = 0; n < text.length(); n++) {
            int sign = random.nextInt(tame) == 0 ? num(33, 126) : text.charAt(n);
            due.is("say(" + sign + ")", x.say(sign), m.say(sign));
            due.is("fault() behind " + text, x.fault(), m.fault());
        }
        due.is("note(" + can + ") of " + text, x.note(can), m.note(can));
        due.is("told(2)", x.told(2), m.told(2));
    }

    private void ask() {
        int a = aCan();
        int d = num(0, 27);
        int end = num(0, 1);
        switch (random.nextInt(16)) {
            case 0:
            case 1:
            case 2: {
                int what = num(0, 5);
                due.is("of(" + a + ", " + d + ", " + what + ")", x.of(a, d, what), m.of(a, d, what));
                break;
            }
            case 3: {
                int day = num(0, 21);
                int what = num(0, 3);
                due.is("week(" + a + ", " + day + ", " + what + ")", x.week(a, day, what), m.week(a, day, what));
                break;
            }
            case 4:
                due.is("breaks(" + a + ", " + end + ")", x.breaks(a, end), m.breaks(a, end));
                break;
            case 5: {
                int seed = num(0, 9999);
                due.is("chance(" + a + ", " + seed + ")", x.chance(a, seed), m.chance(a, seed));
                break;
            }
            case 6: {
                int v = num(0, 20);
                int w = num(0, 20);
                due.is("bound(" + d + ", " + v + ", " + w + ", " + end + ")", x.bound(d, v, w, end), m.bound(d, v, w, end));
                break;
            }
            case 7:
            case 8:
                askLand(d, end);
                break;
            case 9:
                due.is("fill(" + a + ", " + d + ", " + end + ")", x.fill(a, d, end), m.fill(a, d, end));
                break;
            case 10:
            case 11:
                askRecord(d, end);
                break;
            case 12:
                due.is("claim(" + a + ", " + d + ")", x.claim(a, d), m.claim(a, d));
                break;
            case 13:
                due.is("fives(" + a + ", " + end + ")", x.fives(a, end), m.fives(a, end));
                due.is("odds(" + a + ", " + end + ")", x.odds(a, end), m.odds(a, end));
                break;
            case 14:
                due.is("forgets(" + a + ", " + end + ")", x.forgets(a, end), m.forgets(a, end));
                break;
            default: {
                int what = num(0, 37);
                due.is("told(" + what + ")", x.told(what), m.told(what));
            }
        }
    }

    private void askLand(int d, int end) {
        int size = random.nextInt(20) == 0 ? 20 : random.nextInt(4);
        int fromX = num(0, 20 - size);
        int toX = random.nextInt(30) == 0 ? num(0, 20) : fromX + size;
        int fromY = num(0, 20 - size);
        int toY = random.nextInt(30) == 0 ? num(0, 20) : fromY + size;
        String land = fromX + ", " + toX + ", " + fromY + ", " + toY;
        due.is("over(" + d + ", " + land + ", " + end + ")",
            x.over(d, fromX, toX, fromY, toY, end), m.over(d, fromX, toX, fromY, toY, end));
        int part = num(0, 100);
        int most = Math.max(1, m.over(d, fromX, toX, fromY, toY, 1));
        int flow = num(0, Math.min(9999999, most + most / 4));
        due.is("flow(" + d + ", " + land + ", " + part + ", " + flow + ")",
            x.flow(d, fromX, toX, fromY, toY, part, flow), m.flow(d, fromX, toX, fromY, toY, part, flow));
        if (random.nextInt(4) == 0) {
            due.is("place(" + land + ")", x.place(fromX, toX, fromY, toY), m.place(fromX, toX, fromY, toY));
        }
    }

    private void askRecord(int d, int end) {
        int row = 0;
        int digits = 1 + random.nextInt(6);
        for (int n = 0; n < digits; n++) {
            row = row * 10 + num(0, 6);
        }
        due.is("record(" + row + ", " + d + ", " + end + ")", x.record(row, d, end), m.record(row, d, end));
        int i = num(-4, 8);
        due.is("seam(" + row + ", " + i + ")", x.seam(row, i), m.seam(row, i));
    }
}
