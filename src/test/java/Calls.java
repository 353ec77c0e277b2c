import java.util.ArrayList;
import java.util.List;

/** A call of the face with the bounds of its numbers, as the document tells them. */
final class Calls {
    interface Asked {
        long on(RainCans x, int[] numbers);
    }

    final String name;
    final Asked asked;
    /** What a refusal is added to. */
    final long base;
    /** Of each number: one that is taken, the least and the most that are, and the refusal of others. */
    final List<int[]> numbers = new ArrayList<>();
    /** In record() alone UNKNOWN stands behind OUTSIDE. */
    boolean unknownLast;

    private final int cans;

    private Calls(String name, long base, int cans, Asked asked) {
        this.name = name;
        this.asked = asked;
        this.base = base;
        this.cans = cans;
    }

    private Calls can() {
        numbers.add(new int[] {cans - 1, 0, cans - 1, RainCans.UNKNOWN});
        return this;
    }

    private Calls day(int good) {
        numbers.add(new int[] {good, 0, 27, RainCans.UNKNOWN});
        return this;
    }

    private Calls number(int good, int least, int most) {
        numbers.add(new int[] {good, least, most, RainCans.OUTSIDE});
        return this;
    }

    private Calls place() {
        return number(7, 0, 20).number(9, 0, 20);
    }

    /** From 6 to 8 and from 11 to 12; each end is bound by the other one. */
    private Calls land() {
        return number(6, 0, 8).number(8, 6, 20).number(11, 0, 12).number(12, 11, 20);
    }

    int[] good() {
        int[] good = new int[numbers.size()];
        for (int n = 0; n < good.length; n++) {
            good[n] = numbers.get(n)[0];
        }
        return good;
    }

    /** Good numbers but for one of them. */
    int[] with(int n, int v) {
        int[] all = good();
        all[n] = v;
        return all;
    }

    /** What is refused of a number: the first one below, the first one above, and the ends of all numbers. */
    int[] wrong(int n) {
        int[] number = numbers.get(n);
        return new int[] {number[1] - 1, number[2] + 1, Integer.MIN_VALUE, Integer.MAX_VALUE};
    }

    long refusal(int n) {
        return base + numbers.get(n)[3];
    }

    /** Neither UNKNOWN nor OUTSIDE: the numbers themselves are as told. */
    boolean takes(long answer) {
        return answer != base + RainCans.UNKNOWN && answer != base + RainCans.OUTSIDE;
    }

    String told(int[] a) {
        StringBuilder text = new StringBuilder(name).append('(');
        for (int n = 0; n < a.length; n++) {
            text.append(n == 0 ? "" : ", ").append(a[n]);
        }
        return text.append(')').toString();
    }

    static List<Calls> ofName(String name, int cans) {
        List<Calls> some = new ArrayList<>(all(cans));
        some.removeIf(call -> !call.name.equals(name));
        return some;
    }

    /** All calls that take numbers, in a garden of so many CANS; told() and seam()'s i have no such bounds. */
    static List<Calls> all(int cans) {
        List<Calls> all = new ArrayList<>();
        all.addAll(readings(cans));
        all.addAll(weeks(cans));
        all.addAll(between(cans));
        all.addAll(records(cans));
        return all;
    }

    private static List<Calls> readings(int cans) {
        return List.of(
            new Calls("can", 0, cans, (x, a) -> x.can(a[0], a[1])).place(),
            new Calls("miss", 0, cans, (x, a) -> x.miss(a[0], a[1], a[2])).can().number(1, 0, 2).number(4, 0, 9),
            new Calls("wind", 0, cans, (x, a) -> x.wind(a[0], a[1])).day(5).number(1, 0, 2),
            new Calls("raw", 0, cans, (x, a) -> x.raw(a[0], a[1], a[2])).can().day(5).number(7, -1, 999),
            new Calls("fix", 0, cans, (x, a) -> x.fix(a[0], a[1], a[2])).can().day(5).number(7, -1, 999),
            new Calls("say", 0, cans, (x, a) -> x.say(a[0])).number('x', 33, 126),
            new Calls("note", 0, cans, (x, a) -> x.note(a[0])).can(),
            new Calls("of", 0, cans, (x, a) -> x.of(a[0], a[1], a[2])).can().day(5).number(2, 0, 5));
    }

    private static List<Calls> weeks(int cans) {
        List<Calls> some = new ArrayList<>();
        int[] least = {1, 0, 0, 0};
        int[] most = {40, 999, 99, 9};
        for (int which = 0; which < 4; which++) {
            int w = which;
            some.add(new Calls("set", 0, cans, (x, a) -> x.set(w, a[0])).number(3, least[w], most[w]));
        }
        some.add(new Calls("set", 0, cans, (x, a) -> x.set(a[0], 1)).number(2, 0, 3));
        Calls week = new Calls("week", 0, cans, (x, a) -> x.week(a[0], a[1], a[2])).can();
        week.numbers.add(new int[] {5, 0, 21, RainCans.UNKNOWN});
        some.add(week.number(1, 0, 3));
        some.add(new Calls("breaks", RainCans.GONE, cans, (x, a) -> x.breaks(a[0], a[1])).can().number(1, 0, 1));
        some.add(new Calls("chance", 0, cans, (x, a) -> x.chance(a[0], a[1])).can().number(77, 0, 9999));
        return some;
    }

    private static List<Calls> between(int cans) {
        return List.of(
            new Calls("radar", 0, cans, (x, a) -> x.radar(a[0], a[1], a[2], a[3], a[4]))
                .day(5).place().number(40, 0, 60).number(60, 40, 999),
            new Calls("bound", 0, cans, (x, a) -> x.bound(a[0], a[1], a[2], a[3])).day(5).place().number(1, 0, 1),
            new Calls("over", 0, cans, (x, a) -> x.over(a[0], a[1], a[2], a[3], a[4], a[5]))
                .day(5).land().number(1, 0, 1),
            new Calls("flow", RainCans.GONE, cans, (x, a) -> x.flow(a[0], a[1], a[2], a[3], a[4], a[5], a[6]))
                .day(5).land().number(30, 0, 100).number(500, 0, 9999999),
            new Calls("fill", 0, cans, (x, a) -> x.fill(a[0], a[1], a[2])).can().day(5).number(1, 0, 1),
            new Calls("place", 0, cans, (x, a) -> x.place(a[0], a[1], a[2], a[3])).land());
    }

    private static List<Calls> records(int cans) {
        Calls record = new Calls("record", 0, cans, (x, a) -> x.record(a[0], a[1], a[2]))
            .number(321, 1, 666666).day(5).number(1, 0, 1);
        record.unknownLast = true;
        return List.of(
            record,
            new Calls("seam", 0, cans, (x, a) -> x.seam(a[0], -1)).number(321, 1, 666666),
            new Calls("claim", 0, cans, (x, a) -> x.claim(a[0], a[1])).can().day(5),
            new Calls("fives", 0, cans, (x, a) -> x.fives(a[0], a[1])).can().number(1, 0, 1),
            new Calls("odds", RainCans.LOST, cans, (x, a) -> x.odds(a[0], a[1])).can().number(1, 0, 1),
            new Calls("forgets", 0, cans, (x, a) -> x.forgets(a[0], a[1])).can().number(1, 0, 1),
            new Calls("image", 0, cans, (x, a) -> x.image(a[0])).number(0, 0, 1),
            new Calls("restore", 0, cans, (x, a) -> x.restore(a[0])).number(0, 0, 1));
    }
}
