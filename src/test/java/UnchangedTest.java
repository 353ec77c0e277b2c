import java.util.ArrayList;
import java.util.List;
import java.util.function.Supplier;

/** "They change nothing": whatever is asked behind a refused call answers as if that had never been. */
public final class UnchangedTest {
    /** Asks one side of a garden and writes down the answers; a garden and one sheet stay under 512 calls. */
    private interface Sheet {
        void ask(RainCans x, List<Long> answers);
    }

    private static final List<Sheet> SHEETS = List.of(
        UnchangedTest::tell, (x, to) -> cells(x, 0, to), UnchangedTest::takeBack, (x, to) -> cells(x, 2, to),
        (x, to) -> cells(x, 3, to), (x, to) -> cells(x, 4, to), (x, to) -> cells(x, 5, to), UnchangedTest::onward,
        UnchangedTest::misses,
        UnchangedTest::signs, (x, to) -> restored(x, 0, to), (x, to) -> restored(x, 1, to), UnchangedTest::between,
        UnchangedTest::whole);

    private final Due due = new Due();

    public static void main(String[] args) {
        UnchangedTest test = new UnchangedTest();
        test.wrongNumbers("a new object", RainCans::new, 0);
        test.wrongNumbers("a busy garden", Plots::busy, 3);
        test.wrongNumbers("a full garden", Plots::full, 6);
        test.refusedByTheGarden();
        test.askingChangesNothing();
        test.due.end();
    }

    private static void tell(RainCans x, List<Long> to) {
        for (int what = -1; what <= 38; what++) {
            to.add((long) x.told(what));
        }
        to.add((long) x.fault());
        to.add((long) x.can(1, 2));
        to.add((long) x.radar(1, 2, 3, 4, 5));
        to.add((long) x.blind());
        to.add((long) x.wipe());
    }

    private static void cells(RainCans x, int what, List<Long> to) {
        for (int can = 0; can < 6; can++) {
            for (int day = 0; day < 28; day++) {
                to.add((long) x.of(can, day, what));
            }
        }
    }

    /** What comes of all CANS when something is changed behind it: nothing was hidden till then. */
    private static void onward(RainCans x, List<Long> to) {
        to.add((long) x.set(0, 20));
        cells(x, 5, to);
        to.add((long) x.bound(27, 1, 1, 1));
    }

    private static void takeBack(RainCans x, List<Long> to) {
        cells(x, 1, to);
        for (int n = 0; n < 21; n++) {
            to.add((long) x.undo());
            to.add((long) x.of(n % 6, n, 1));
            to.add((long) x.of(0, 2, 1));
        }
    }

    private static void misses(RainCans x, List<Long> to) {
        for (int can = 0; can < 6; can++) {
            for (int wind = 0; wind < 3; wind++) {
                to.add((long) x.miss(can, wind, 0));
            }
        }
        for (int which = 0; which < 4; which++) {
            to.add((long) x.set(which, 3));
        }
        for (int day = 0; day < 28; day++) {
            to.add((long) x.wind(day, 0));
        }
    }

    private static void signs(RainCans x, List<Long> to) {
        to.add((long) x.say('x'));
        to.add((long) x.fault());
        to.add((long) x.note(0));
        to.add((long) x.wipe());
        Plots.say(x, "x26");
        to.add((long) x.note(0));
        cells(x, 2, to);
    }

    private static void restored(RainCans x, int n, List<Long> to) {
        to.add((long) x.restore(n));
        cells(x, 5, to);
        for (int what = 0; what <= 37; what++) {
            to.add((long) x.told(what));
        }
    }

    private static void between(RainCans x, List<Long> to) {
        for (int day = 0; day < 28; day++) {
            for (int end = 0; end < 2; end++) {
                to.add((long) x.bound(day, 6, 6, end));
                to.add((long) x.bound(day, 0, 20, end));
            }
            to.add((long) x.over(day, 17, 20, 15, 18, 1));
        }
        to.add((long) x.place(0, 20, 0, 20));
    }

    private static void whole(RainCans x, List<Long> to) {
        for (int can = 0; can < 6; can++) {
            for (int what = 0; what < 2; what++) {
                to.add((long) x.breaks(can, what));
                to.add((long) x.fives(can, what));
                to.add(x.odds(can, what));
                to.add((long) x.forgets(can, what));
                to.add((long) x.fill(can, 20, what));
            }
            to.add((long) x.chance(can, 5));
            for (int what = 0; what < 4; what++) {
                to.add((long) x.week(can, can + 3, what));
            }
            to.add((long) x.claim(can, 3));
        }
        for (int i = -2; i < 6; i++) {
            to.add((long) x.seam(123456, i));
            to.add((long) x.seam(654321, i));
        }
    }

    private static List<List<Long>> answers(Supplier<RainCans> garden) {
        List<List<Long>> all = new ArrayList<>();
        for (Sheet sheet : SHEETS) {
            List<Long> answers = new ArrayList<>();
            sheet.ask(garden.get(), answers);
            all.add(answers);
        }
        return all;
    }

    private void unchanged(String call, Supplier<RainCans> garden, List<List<Long>> before, Calls.Asked asked, int[] a) {
        List<List<Long>> behind = answers(() -> {
            RainCans x = garden.get();
            asked.on(x, a);
            return x;
        });
        for (int n = 0; n < before.size(); n++) {
            due.holds(call + " has changed sheet " + n, before.get(n).equals(behind.get(n)));
        }
    }

    private void wrongNumbers(String name, Supplier<RainCans> garden, int cans) {
        due.about("They change nothing: " + name);
        List<List<Long>> before = answers(garden);
        for (Calls call : Calls.all(cans)) {
            for (int n = 0; n < call.numbers.size(); n++) {
                for (int v : call.wrong(n)) {
                    int[] a = call.with(n, v);
                    unchanged(call.told(a), garden, before, call.asked, a);
                }
            }
        }
        for (int what : new int[] {-1, 8, 9, 38, Integer.MIN_VALUE, Integer.MAX_VALUE}) {
            unchanged("told(" + what + ")", garden, before, (x, a) -> x.told(what), null);
        }
    }

    private void refused(Supplier<RainCans> garden, String call, long refusal, Calls.Asked asked) {
        due.is(call, asked.on(garden.get(), null), refusal);
        unchanged(call, garden, answers(garden), asked, null);
    }

    private static RainCans saying(String text) {
        RainCans x = Plots.busy();
        x.wipe();
        Plots.say(x, text);
        return x;
    }

    private static RainCans withoutFixes() {
        RainCans x = Plots.busy();
        for (int n = 0; n < 3; n++) {
            x.undo();
        }
        return x;
    }

    private void refusedByTheGarden() {
        due.about("They change nothing: FULL, NO, STATE");
        refused(Plots::full, "can(1, 1), a seventh", -4, (x, a) -> x.can(1, 1));
        refused(Plots::full, "fix(0, 0, 9), the twenty-first", -4, (x, a) -> x.fix(0, 0, 9));
        refused(Plots::full, "say(120), the forty-first", -4, (x, a) -> x.say('x'));
        refused(Plots::full, "radar, a seventh", -4, (x, a) -> x.radar(0, 0, 0, 1, 2));
        refused(Plots::full, "note(0) of DAYS in two ITEMS", -5, (x, a) -> x.note(0));
        refused(Plots::busy, "note(2) of a FAULT", -5, (x, a) -> x.note(2));
        refused(() -> saying("x5;s9-8"), "note(2) of a SPAN that falls", -5, (x, a) -> x.note(2));
        refused(() -> saying("x5;l28"), "note(2) of DAY 28", -5, (x, a) -> x.note(2));
        refused(() -> saying("x5;s0"), "note(2) of s0", -5, (x, a) -> x.note(2));
        refused(UnchangedTest::withoutFixes, "undo()", -5, (x, a) -> x.undo());
        refused(RainCans::new, "undo()", -5, (x, a) -> x.undo());
        refused(Plots::torn, "restore(1)", -3, (x, a) -> x.restore(1));
        refused(RainCans::new, "restore(0)", -3, (x, a) -> x.restore(0));
        refused(Plots::torn, "fill(0, 2, 0)", -3, (x, a) -> x.fill(0, 2, 0));
        refused(Plots::torn, "claim(0, 27)", -3, (x, a) -> x.claim(0, 27));
        refused(Plots::torn, "bound, CLASH", -5, (x, a) -> x.bound(27, 0, 20, 0));
        refused(Plots::torn, "over, CLASH", -5, (x, a) -> x.over(27, 0, 2, 18, 20, 0));
        refused(Plots::torn, "flow, CLASH", -1000000005, (x, a) -> x.flow(27, 0, 2, 18, 20, 9, 9));
        refused(Plots::torn, "fill(3, 27, 0), CLASH", -5, (x, a) -> x.fill(3, 27, 0));
        refused(Plots::torn, "breaks(3, 0)", -1000000005, (x, a) -> x.breaks(3, 0));
        refused(Plots::torn, "chance(3, 0)", -5, (x, a) -> x.chance(3, 0));
        refused(Plots::torn, "seam(7, 0)", -2, (x, a) -> x.seam(7, 0));
    }

    /** The calls that ask alone, answered: they keep nothing back either. */
    private void askingChangesNothing() {
        due.about("what is asked alone changes nothing");
        String[] asking = {"of", "week", "breaks", "chance", "bound", "over", "flow", "fill", "place", "record", "seam",
            "claim", "fives", "odds", "forgets"};
        List<List<Long>> before = answers(Plots::busy);
        for (String name : asking) {
            List<Calls> calls = Calls.ofName(name, 3);
            due.holds("there is one call " + name, calls.size() == 1);
            for (Calls call : calls) {
                unchanged(call.told(call.good()), Plots::busy, before, call.asked, call.good());
            }
        }
        unchanged("fault()", Plots::busy, before, (x, a) -> x.fault(), null);
        unchanged("told(3)", Plots::busy, before, (x, a) -> x.told(3), null);
    }
}
