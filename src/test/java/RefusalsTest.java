import java.util.List;
import java.util.function.Supplier;

/** "Calls that are refused answer, the first of these that fits": the bounds of all numbers, and which comes first. */
public final class RefusalsTest {
    private final Due due = new Due();

    public static void main(String[] args) {
        RefusalsTest test = new RefusalsTest();
        test.endsAreTaken();
        test.beyondTheEndsIsRefused();
        test.ofTwoTheFirst();
        test.withoutCans();
        test.cansThatHaveGone();
        test.fullIsLast();
        test.stateIsBehindNumbers();
        test.noIsBehindNumbers();
        test.stateIsAheadOfNo();
        test.goneAndLost();
        test.due.end();
    }

    private static RainCans cans(int count) {
        RainCans x = new RainCans();
        for (int n = 0; n < count; n++) {
            x.can(2 * n, 3 * n);
        }
        return x;
    }

    private void endsAreTaken() {
        for (int cans = 1; cans <= 5; cans++) {
            due.about("the least and the most are taken, with " + cans + " CANS");
            for (Calls call : Calls.all(cans)) {
                for (int n = 0; n < call.numbers.size(); n++) {
                    takes(call, cans, call.with(n, call.numbers.get(n)[1]));
                    takes(call, cans, call.with(n, call.numbers.get(n)[2]));
                }
            }
        }
    }

    private void takes(Calls call, int cans, int[] a) {
        long answer = call.asked.on(cans(cans), a);
        due.holds(call.told(a) + " answered " + answer, call.takes(answer));
    }

    private void beyondTheEndsIsRefused() {
        for (int cans = 1; cans <= 6; cans++) {
            due.about("one below and one above are refused, with " + cans + " CANS");
            for (Calls call : Calls.all(cans)) {
                for (int n = 0; n < call.numbers.size(); n++) {
                    for (int v : call.wrong(n)) {
                        int[] a = call.with(n, v);
                        due.is(call.told(a), call.asked.on(cans(cans), a), call.refusal(n));
                    }
                }
            }
        }
    }

    private void ofTwoTheFirst() {
        due.about("UNKNOWN ahead of OUTSIDE (record: behind it)");
        for (Calls call : Calls.all(3)) {
            for (int n = 0; n < call.numbers.size(); n++) {
                for (int k = n + 1; k < call.numbers.size(); k++) {
                    bothWrong(call, n, k);
                }
            }
        }
    }

    private void bothWrong(Calls call, int n, int k) {
        long first = call.unknownLast
            ? Math.min(call.refusal(n), call.refusal(k)) : Math.max(call.refusal(n), call.refusal(k));
        for (int v : call.wrong(n)) {
            for (int w : call.wrong(k)) {
                int[] a = call.with(n, v);
                a[k] = w;
                // two ends of a LAND or of a span may be far ones and still rise: then they are refused as numbers
                due.is(call.told(a), call.asked.on(cans(3), a), first);
            }
        }
    }

    private void withoutCans() {
        due.about("there is no such CAN: a new object has none");
        for (Calls call : Calls.all(1)) {
            int[] number = call.numbers.get(0);
            boolean ofCan = number[3] == RainCans.UNKNOWN && number[2] == 0;
            if (ofCan) {
                for (int v = -1; v <= 6; v++) {
                    int[] a = call.with(0, v);
                    due.is(call.told(a), call.asked.on(new RainCans(), a), call.base + RainCans.UNKNOWN);
                }
            } else {
                long answer = call.asked.on(new RainCans(), call.good());
                due.holds(call.told(call.good()) + " answered " + answer, call.takes(answer));
            }
        }
    }

    private void cansThatHaveGone() {
        due.about("there is no such CAN: restored to fewer");
        for (Calls call : Calls.all(6)) {
            int[] number = call.numbers.get(0);
            if (number[3] == RainCans.UNKNOWN && number[2] == 5) {
                RainCans x = cans(2);
                x.image(0);
                for (int n = 0; n < 4; n++) {
                    x.can(n, n);
                    x.raw(2 + n, 5, 8);
                }
                x.restore(0);
                due.is("can 2: " + call.told(call.with(0, 2)), call.asked.on(x, call.with(0, 2)),
                    call.base + RainCans.UNKNOWN);
                long answer = call.asked.on(x, call.with(0, 1));
                due.holds(call.told(call.with(0, 1)) + " answered " + answer, call.takes(answer));
            }
        }
    }

    /** Each number that is wrong is told ahead of what the garden itself refuses. */
    private void numbersFirst(String name, int cans, Supplier<RainCans> garden, int refusal) {
        List<Calls> calls = Calls.ofName(name, cans);
        due.holds("there is one call " + name, calls.size() == 1);
        for (Calls call : calls) {
            due.is(call.told(call.good()), call.asked.on(garden.get(), call.good()), call.base + refusal);
            for (int n = 0; n < call.numbers.size(); n++) {
                for (int v : call.wrong(n)) {
                    int[] a = call.with(n, v);
                    due.is(call.told(a), call.asked.on(garden.get(), a), call.refusal(n));
                }
            }
        }
    }

    private void fullIsLast() {
        due.about("FULL is behind UNKNOWN and OUTSIDE");
        numbersFirst("can", 6, Plots::full, RainCans.FULL);
        numbersFirst("fix", 6, Plots::full, RainCans.FULL);
        numbersFirst("say", 6, Plots::full, RainCans.FULL);
        numbersFirst("radar", 6, Plots::full, RainCans.FULL);
    }

    private static RainCans read() {
        RainCans x = cans(3);
        x.raw(2, 5, 40);
        return x;
    }

    private static RainCans signs(String text) {
        RainCans x = cans(3);
        Plots.say(x, text);
        return x;
    }

    /** Two CANS so unlike on DAY 5 that the places between can not be told. */
    private static RainCans clash() {
        RainCans x = Plots.at(6, 11, 8, 11, 7, 9);
        x.raw(0, 5, 0);
        x.raw(1, 5, 900);
        return x;
    }

    private void stateIsBehindNumbers() {
        due.about("STATE is behind UNKNOWN and OUTSIDE");
        numbersFirst("fill", 3, RefusalsTest::read, RainCans.STATE);
        numbersFirst("claim", 3, () -> cans(3), RainCans.STATE);
        numbersFirst("restore", 3, () -> cans(3), RainCans.STATE);
    }

    private void noIsBehindNumbers() {
        due.about("NO is behind UNKNOWN and OUTSIDE");
        numbersFirst("note", 3, () -> signs("x1;"), RainCans.NO);
        numbersFirst("note", 3, () -> signs("x28"), RainCans.NO);
        numbersFirst("breaks", 3, () -> cans(3), RainCans.NO);
        numbersFirst("chance", 3, () -> cans(3), RainCans.NO);
        numbersFirst("bound", 3, RefusalsTest::clash, RainCans.NO);
        numbersFirst("over", 3, RefusalsTest::clash, RainCans.NO);
        numbersFirst("flow", 3, RefusalsTest::clash, RainCans.NO);
        numbersFirst("fill", 3, RefusalsTest::clash, RainCans.NO);
    }

    private void stateIsAheadOfNo() {
        due.about("STATE is ahead of NO");
        RainCans x = clash();
        due.is("bound at CAN 0: CLASH", x.bound(5, 6, 11, 0), RainCans.NO);
        due.is("fill(0, 5, 0): there is a VALUE", x.fill(0, 5, 0), RainCans.STATE);
        due.is("fill(1, 5, 1)", x.fill(1, 5, 1), RainCans.STATE);
        due.is("fill(2, 5, 0): there is none", x.fill(2, 5, 0), RainCans.NO);
    }

    private void goneAndLost() {
        due.about("GONE and the refusal; LOST and the refusal");
        due.is("UNKNOWN", RainCans.UNKNOWN, -1);
        due.is("OUTSIDE", RainCans.OUTSIDE, -2);
        due.is("STATE", RainCans.STATE, -3);
        due.is("FULL", RainCans.FULL, -4);
        due.is("NO", RainCans.NO, -5);
        due.is("NONE", RainCans.NONE, -6);
        due.is("GONE", RainCans.GONE, -1000000000);
        due.is("LOST", RainCans.LOST, -1000000000000000000L);
        RainCans x = clash();
        due.is("breaks(3, 0)", x.breaks(3, 0), -1000000001);
        due.is("breaks(0, 2)", x.breaks(0, 2), -1000000002);
        due.is("breaks(0, 0)", x.breaks(0, 0), -1000000005);
        due.is("flow on DAY 28", x.flow(28, 0, 1, 0, 1, 0, 0), -1000000001);
        due.is("flow of x from 2 to 1", x.flow(5, 2, 1, 0, 1, 0, 0), -1000000002);
        due.is("flow, CLASH", x.flow(5, 6, 8, 11, 11, 0, 0), -1000000005);
        due.is("odds(3, 0)", x.odds(3, 0), -1000000000000000001L);
        due.is("odds(0, 2)", x.odds(0, 2), -1000000000000000002L);
        due.is("chance(0, 0): it is never below 0", x.chance(0, 0), -5);
        due.is("over, CLASH: likewise", x.over(5, 6, 8, 11, 11, 0), -5);
    }
}
